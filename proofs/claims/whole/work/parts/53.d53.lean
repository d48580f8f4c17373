-- every number as nI of a natural number: the rules that simp turns a text with (disch := omega)
section Nat53
theorem l_0 : (0 : Int32) = nI 0 := Eq.trans rfl rfl
theorem l_1 : (1 : Int32) = nI 1 := Eq.trans rfl rfl
theorem l_2 : (2 : Int32) = nI 2 := Eq.trans rfl rfl
theorem l_3 : (3 : Int32) = nI 3 := Eq.trans rfl rfl
theorem l_4 : (4 : Int32) = nI 4 := Eq.trans rfl rfl
theorem l_5 : (5 : Int32) = nI 5 := Eq.trans rfl rfl
theorem l_6 : (6 : Int32) = nI 6 := Eq.trans rfl rfl
theorem l_7 : (7 : Int32) = nI 7 := Eq.trans rfl rfl
theorem l_8 : (8 : Int32) = nI 8 := Eq.trans rfl rfl
theorem l_9 : (9 : Int32) = nI 9 := Eq.trans rfl rfl
theorem l_10 : (10 : Int32) = nI 10 := Eq.trans rfl rfl
theorem l_11 : (11 : Int32) = nI 11 := Eq.trans rfl rfl
theorem l_12 : (12 : Int32) = nI 12 := Eq.trans rfl rfl
theorem l_13 : (13 : Int32) = nI 13 := Eq.trans rfl rfl
theorem l_14 : (14 : Int32) = nI 14 := Eq.trans rfl rfl
theorem l_15 : (15 : Int32) = nI 15 := Eq.trans rfl rfl
theorem l_16 : (16 : Int32) = nI 16 := Eq.trans rfl rfl
theorem l_17 : (17 : Int32) = nI 17 := Eq.trans rfl rfl
theorem l_20 : (20 : Int32) = nI 20 := Eq.trans rfl rfl
theorem l_21 : (21 : Int32) = nI 21 := Eq.trans rfl rfl
theorem l_22 : (22 : Int32) = nI 22 := Eq.trans rfl rfl
theorem l_23 : (23 : Int32) = nI 23 := Eq.trans rfl rfl
theorem l_24 : (24 : Int32) = nI 24 := Eq.trans rfl rfl
theorem l_25 : (25 : Int32) = nI 25 := Eq.trans rfl rfl
theorem l_26 : (26 : Int32) = nI 26 := Eq.trans rfl rfl
theorem l_28 : (28 : Int32) = nI 28 := Eq.trans rfl rfl
theorem l_30 : (30 : Int32) = nI 30 := Eq.trans rfl rfl
theorem l_31 : (31 : Int32) = nI 31 := Eq.trans rfl rfl
theorem l_32 : (32 : Int32) = nI 32 := Eq.trans rfl rfl
theorem l_40 : (40 : Int32) = nI 40 := Eq.trans rfl rfl
theorem l_50 : (50 : Int32) = nI 50 := Eq.trans rfl rfl
theorem l_60 : (60 : Int32) = nI 60 := Eq.trans rfl rfl
theorem l_64 : (64 : Int32) = nI 64 := Eq.trans rfl rfl
theorem l_65 : (65 : Int32) = nI 65 := Eq.trans rfl rfl
theorem l_69 : (69 : Int32) = nI 69 := Eq.trans rfl rfl
theorem l_100 : (100 : Int32) = nI 100 := Eq.trans rfl rfl
theorem l_127 : (127 : Int32) = nI 127 := Eq.trans rfl rfl
theorem l_128 : (128 : Int32) = nI 128 := Eq.trans rfl rfl
theorem l_223 : (223 : Int32) = nI 223 := Eq.trans rfl rfl
theorem l_240 : (240 : Int32) = nI 240 := Eq.trans rfl rfl
theorem l_255 : (255 : Int32) = nI 255 := Eq.trans rfl rfl
theorem l_1500 : (1500 : Int32) = nI 1500 := Eq.trans rfl rfl
theorem l_2000 : (2000 : Int32) = nI 2000 := Eq.trans rfl rfl
theorem l_4000 : (4000 : Int32) = nI 4000 := Eq.trans rfl rfl
theorem l_5000 : (5000 : Int32) = nI 5000 := Eq.trans rfl rfl
theorem l_8191 : (8191 : Int32) = nI 8191 := Eq.trans rfl rfl
theorem l_8192 : (8192 : Int32) = nI 8192 := Eq.trans rfl rfl
theorem l_16383 : (16383 : Int32) = nI 16383 := Eq.trans rfl rfl
theorem l_16384 : (16384 : Int32) = nI 16384 := Eq.trans rfl rfl
theorem l_49152 : (49152 : Int32) = nI 49152 := Eq.trans rfl rfl
theorem l_65535 : (65535 : Int32) = nI 65535 := Eq.trans rfl rfl
theorem l_65536 : (65536 : Int32) = nI 65536 := Eq.trans rfl rfl
theorem n_shl8 (a : Nat) : nI a <<< (nI 8 &&& nI 31) = nI (a * 256) := (nI_shl a).1
theorem n_shl16 (a : Nat) : nI a <<< (nI 16 &&& nI 31) = nI (a * 65536) := (nI_shl a).2.1
theorem n_shl24 (a : Nat) : nI a <<< (nI 24 &&& nI 31) = nI (a * 16777216) := (nI_shl a).2.2
theorem n_shr8 {a : Nat} (ha : a < 2 ^ 31) : nI a >>> (nI 8 &&& nI 31) = nI (a / 256) := (nI_shr ha).1
theorem n_shr16 {a : Nat} (ha : a < 2 ^ 31) : nI a >>> (nI 16 &&& nI 31) = nI (a / 65536) := (nI_shr ha).2.1
theorem n_shr24 {a : Nat} (ha : a < 2 ^ 31) : nI a >>> (nI 24 &&& nI 31) = nI (a / 16777216) := (nI_shr ha).2.2.1
theorem n_shr4 {a : Nat} (ha : a < 2 ^ 31) : nI a >>> (nI 4 &&& nI 31) = nI (a / 16) := (nI_shr ha).2.2.2
theorem n_ushr16 {a : Nat} (ha : a < 2 ^ 32) : ((nI a).toUInt32 >>> ((nI 16).toUInt32 &&& Int32.toUInt32 (nI 31))).toInt32 = nI (a / 65536) := pk_ushrN ha (nI 16) 16 (by decide)
theorem n_ushr24 {a : Nat} (ha : a < 2 ^ 32) : ((nI a).toUInt32 >>> ((nI 24).toUInt32 &&& Int32.toUInt32 (nI 31))).toInt32 = nI (a / 16777216) := pk_ushrN ha (nI 24) 24 (by decide)
theorem n_rem2 {a : Nat} (ha : a < 2 ^ 31) : nI a - nI a / nI 2 * nI 2 = nI (a % 2) := nI_rem2 ha
theorem n_rem4 {a : Nat} (ha : a < 2 ^ 31) : nI a - nI a / nI 4 * nI 4 = nI (a % 4) := nI_rem4 ha
theorem n_rem8 {a : Nat} (ha : a < 2 ^ 31) : nI a - nI a / nI 8 * nI 8 = nI (a % 8) := nI_rem8 ha
theorem n_rem10 {a : Nat} (ha : a < 2 ^ 31) : nI a - nI a / nI 10 * nI 10 = nI (a % 10) := nI_rem10 ha
theorem n_m15 {a : Nat} (ha : a < 2 ^ 32) : nI a &&& nI 15 = nI (a % 16) := (nI_mask ha).1
theorem n_m255 {a : Nat} (ha : a < 2 ^ 32) : nI a &&& nI 255 = nI (a % 256) := (nI_mask ha).2.1
theorem n_m8191 {a : Nat} (ha : a < 2 ^ 32) : nI a &&& nI 8191 = nI (a % 8192) := (nI_mask ha).2.2.1
theorem n_m16383 {a : Nat} (ha : a < 2 ^ 32) : nI a &&& nI 16383 = nI (a % 16384) := (nI_mask ha).2.2.2.1
theorem n_m65535 {a : Nat} (ha : a < 2 ^ 32) : nI a &&& nI 65535 = nI (a % 65536) := (nI_mask ha).2.2.2.2
theorem n_b8192 {a : Nat} (ha : a < 2 ^ 32) : nI a &&& nI 8192 = nI (a / 8192 % 2 * 8192) := (nI_bit ha).1
theorem n_b16384 {a : Nat} (ha : a < 2 ^ 32) : nI a &&& nI 16384 = nI (a / 16384 % 2 * 16384) := (nI_bit ha).2.1
theorem n_b32 {a : Nat} (ha : a < 2 ^ 32) : nI a &&& nI 32 = nI (a / 32 % 2 * 32) := (nI_bit ha).2.2.1
theorem n_b64 {a : Nat} (ha : a < 2 ^ 32) : nI a &&& nI 64 = nI (a / 64 % 2 * 64) := (nI_bit ha).2.2.2
theorem db_T {p : Prop} [Decidable p] (h : p) (x y : Option ev_O) : db (decide p) x y = x := by rw [decT h]; rfl
theorem db_F {p : Prop} [Decidable p] (h : ¬ p) (x y : Option ev_O) : db (decide p) x y = y := by rw [decF h]; rfl
theorem dg_T {p : Prop} [Decidable p] (h : p) (x : Option ev_O) : dg (decide p) x = x := by rw [decT h]; rfl
theorem ev_inN {i n : Nat} (hi : i < n ∧ n < 2 ^ 31) : ev_in (nI i) n = true := ev_in_nI hi.1 hi.2
-- packets of the class: object a, its row r of N bytes
def pk (a r N : Nat) : Prop := ∀ z w c s, hp_k (hq z w c s) a = some (2, 0) ∧ hp_p (hq z w c s) a 0 = some r ∧ hp_k (hq z w c s) r = some (65, N)
theorem pk_t : pk 15 16 2000 := fun z w c s => ⟨kq_15, pq_15_0, kq_16⟩
theorem pk_w : pk 17 18 4060 := fun z w c s => ⟨kq_17, pq_17_0, kq_18⟩
theorem pk_r : pk 19 20 4020 := fun z w c s => ⟨kq_19, pq_19_0, kq_20⟩
theorem pk_f {j : Nat} (hj : j < 4) : pk (31 + 5 * j) (32 + 5 * j) 68 := by
  have h : j = 0 ∨ j = 1 ∨ j = 2 ∨ j = 3 := by omega
  rcases h with rfl | rfl | rfl | rfl
  · exact fun z w c s => ⟨kq_31, pq_31_0, kq_32⟩
  · exact fun z w c s => ⟨kq_36, pq_36_0, kq_37⟩
  · exact fun z w c s => ⟨kq_41, pq_41_0, kq_42⟩
  · exact fun z w c s => ⟨kq_46, pq_46_0, kq_47⟩
-- the first M bytes of a row of the class; of a row of the reference
def cb (z : Nat → Nat → Int32) (r M : Nat) (B : Nat → Nat) : Prop := (∀ i, B i < 256) ∧ ∀ i, i < M → z r i &&& 255 = nI (B i)
def mb (z : Nat → Nat → Int32) (r M : Nat) (B : Nat → Nat) : Prop := (∀ i, B i < 256) ∧ ∀ i, i < M → z r i = nI (B i)
theorem n119 {r N M t : Nat} {B : Nat → Nat} {z : Nat → Nat → Int32} {w : Nat → Option Nat} {c s f : Nat} (hk : hp_k (hq z w c s) r = some (65, N)) (hb : cb z r M B) (hM : M ≤ N) (hN : N < 10000) (ht : t + 1 < M) : F_119 f r (nI t) (hq z w c s) = some (.inl (some (.int (nI (n2 B t)))), hq z w c s) := by
  have h1 := hb.2 t (by omega)
  have h2 := hb.2 (t + 1) (by omega)
  simp only [F_119, aib_k hk, nI_1, ev_in_nI (show t < N by omega) (show N < 2 ^ 31 by omega), ev_in_nI (show t + 1 < N by omega) (show N < 2 ^ 31 by omega), nI_clamp (show t < 2 ^ 31 by omega), nI_clamp (show t + 1 < 2 ^ 31 by omega), hq_z, h1, h2, c8, or8 (hb.1 _) (hb.1 _), dg_1, n2]
theorem n120 {r N M t : Nat} {B : Nat → Nat} {z : Nat → Nat → Int32} {w : Nat → Option Nat} {c s f : Nat} (hk : hp_k (hq z w c s) r = some (65, N)) (hb : cb z r M B) (hM : M ≤ N) (hN : N < 10000) (ht : t + 3 < M) : F_120 f r (nI t) (hq z w c s) = some (.inl (some (.int (nI (n4 B t)))), hq z w c s) := by
  have h1 := hb.2 t (by omega)
  have h2 := hb.2 (t + 1) (by omega)
  have h3 := hb.2 (t + 2) (by omega)
  have h4 := hb.2 (t + 3) (by omega)
  simp only [F_120, aib_k hk, nI_1, nI_k2, nI_k3, ev_in_nI (show t < N by omega) (show N < 2 ^ 31 by omega), ev_in_nI (show t + 1 < N by omega) (show N < 2 ^ 31 by omega), ev_in_nI (show t + 2 < N by omega) (show N < 2 ^ 31 by omega), ev_in_nI (show t + 3 < N by omega) (show N < 2 ^ 31 by omega), nI_clamp (show t < 2 ^ 31 by omega), nI_clamp (show t + 1 < 2 ^ 31 by omega), nI_clamp (show t + 2 < 2 ^ 31 by omega), nI_clamp (show t + 3 < 2 ^ 31 by omega), hq_z, h1, h2, h3, h4, c8, c16, c24, or4 (hb.1 _) (hb.1 _) (hb.1 _) (hb.1 _), dg_1, n4, n2]
theorem n89 {r N M t : Nat} {B : Nat → Nat} {z : Nat → Nat → Int32} {w : Nat → Option Nat} {c s f : Nat} (hk : hp_k (hq z w c s) r = some (64, N)) (hb : mb z r M B) (hM : M ≤ N) (hN : N < 30000) (ht : t + 1 < M) : F_89 f r (nI t) (hq z w c s) = some (.inl (some (.int (nI (n2 B t)))), hq z w c s) := by
  have h1 := hb.2 t (by omega)
  have h2 := hb.2 (t + 1) (by omega)
  simp only [F_89, aib_k hk, nI_1, ev_in_nI (show t < N by omega) (show N < 2 ^ 31 by omega), ev_in_nI (show t + 1 < N by omega) (show N < 2 ^ 31 by omega), nI_clamp (show t < 2 ^ 31 by omega), nI_clamp (show t + 1 < 2 ^ 31 by omega), hq_z, h1, h2, c8, or8 (hb.1 _) (hb.1 _), dg_1, n2]
theorem n90 {r N M t : Nat} {B : Nat → Nat} {z : Nat → Nat → Int32} {w : Nat → Option Nat} {c s f : Nat} (hk : hp_k (hq z w c s) r = some (64, N)) (hb : mb z r M B) (hM : M ≤ N) (hN : N < 30000) (ht : t + 3 < M) : F_90 f r (nI t) (hq z w c s) = some (.inl (some (.int (nI (n4 B t)))), hq z w c s) := by
  simp only [F_90, n89 hk hb hM hN (show t + 1 < M by omega), nI_k2, n89 hk hb hM hN (show t + 2 + 1 < M by omega), di_1, c16, or16 (n2_lt hb.1 _) (n2_lt hb.1 _), n4]
theorem and_le {x y m : Int32} (h : x &&& 255 = y) (hm : 255 &&& m = m) : x &&& m = y &&& m := by
  rw [← h, Int32.and_assoc, hm]
section R
variable {a r N M f c s : Nat} {B : Nat → Nat} {z : Nat → Nat → Int32} {w : Nat → Option Nat}
theorem hl_le (B : Nat → Nat) : hl B ≤ 60 := by unfold hl; omega
theorem n8 (hp : pk a r N) (hb : cb z r M B) (hM : M ≤ N) (hN : N < 10000) (h0 : 20 ≤ M) : F_8 f a (hq z w c s) = some (.inl (some (.int (nI (hl B)))), hq z w c s) := by
  have h1 := and_le (hb.2 0 (by omega)) (m := 15) (by decide)
  have h2 := hb.1 0
  have e := (nI_mask (a := B 0) (by omega)).1
  have e2 : nI (B 0 % 16) * (4 : Int32) = nI (hl B) := nI_mulN _ 4
  simp only [F_8, (hp z w c s).1, (hp z w c s).2.1, aib_k (hp z w c s).2.2, dp_1, hq_z, show Int32.toNatClampNeg 0 = 0 from rfl, h1, e, e2, decide_true, dg_1, show ev_in 0 N = true from ev_in_nI (i := 0) (by omega) (by omega)]
theorem n9 (hp : pk a r N) (hb : cb z r M B) (hM : M ≤ N) (hN : N < 10000) (h0 : 20 ≤ M) : F_9 f a (hq z w c s) = some (.inl (some (.int (nI (n2 B 2)))), hq z w c s) := by
  simp only [F_9, (hp z w c s).1, (hp z w c s).2.1, dp_1, decide_true, dg_1, l_2, n119 (hp z w c s).2.2 hb hM hN (show 2 + 1 < M by omega), di_1]
theorem n10 (hp : pk a r N) (hb : cb z r M B) (hM : M ≤ N) (hN : N < 10000) (h0 : 20 ≤ M) (h3 : hl B ≤ n2 B 2) : F_10 f a (hq z w c s) = some (.inl (some (.int (nI (n2 B 2 - hl B)))), hq z w c s) := by
  have h1 := and_le (hb.2 0 (by omega)) (m := 15) (by decide)
  have h2 := hb.1 0
  have e := (nI_mask (a := B 0) (by omega)).1
  have e2 : nI (B 0 % 16) * (4 : Int32) = nI (hl B) := nI_mulN _ 4
  simp only [F_10, (hp z w c s).1, (hp z w c s).2.1, aib_k (hp z w c s).2.2, dp_1, hq_z, show Int32.toNatClampNeg 0 = 0 from rfl, h1, e, e2, decide_true, dg_1, show ev_in 0 N = true from ev_in_nI (i := 0) (by omega) (by omega), l_2, n119 (hp z w c s).2.2 hb hM hN (show 2 + 1 < M by omega), di_1, nI_subN h3]
theorem n11 (hp : pk a r N) (hb : cb z r M B) (hM : M ≤ N) (hN : N < 10000) (h0 : 20 ≤ M) : F_11 f a (hq z w c s) = some (.inl (some (.int (nI (n2 B 4)))), hq z w c s) := by
  simp only [F_11, (hp z w c s).1, (hp z w c s).2.1, dp_1, decide_true, dg_1, l_4, n119 (hp z w c s).2.2 hb hM hN (show 4 + 1 < M by omega), di_1]
theorem n12 (hp : pk a r N) (hb : cb z r M B) (hM : M ≤ N) (hN : N < 10000) (h0 : 20 ≤ M) : F_12 f a (hq z w c s) = some (.inl (some (.int (nI (n2 B 6 / 16384 % 2)))), hq z w c s) := by
  have h1 := n2_lt hb.1 6
  have e := (nI_bit (a := n2 B 6) (by omega)).2.1
  by_cases h : n2 B 6 / 16384 % 2 = 0
  · rw [h] at e ⊢
    simp only [F_12, B_12_21, (hp z w c s).1, (hp z w c s).2.1, dp_1, decide_true, dg_1, l_6, n119 (hp z w c s).2.2 hb hM hN (show 6 + 1 < M by omega), di_1, ec_eq, e, nI_0, Nat.zero_mul, db_1, show dzb 0 = true from rfl]
  · have h : n2 B 6 / 16384 % 2 = 1 := by omega
    rw [h] at e ⊢
    simp only [F_12, B_12_21, (hp z w c s).1, (hp z w c s).2.1, dp_1, decide_true, dg_1, l_6, n119 (hp z w c s).2.2 hb hM hN (show 6 + 1 < M by omega), di_1, ec_eq, e, show ¬ nI (1 * 16384) = 0 by decide, decide_false, db_0, show dzb 1 = true from rfl]; rfl
theorem n13 (hp : pk a r N) (hb : cb z r M B) (hM : M ≤ N) (hN : N < 10000) (h0 : 20 ≤ M) : F_13 f a (hq z w c s) = some (.inl (some (.int (nI (n2 B 6 / 8192 % 2)))), hq z w c s) := by
  have h1 := n2_lt hb.1 6
  have e := (nI_bit (a := n2 B 6) (by omega)).1
  by_cases h : n2 B 6 / 8192 % 2 = 0
  · rw [h] at e ⊢
    simp only [F_13, B_13_21, (hp z w c s).1, (hp z w c s).2.1, dp_1, decide_true, dg_1, l_6, n119 (hp z w c s).2.2 hb hM hN (show 6 + 1 < M by omega), di_1, ec_eq, e, nI_0, Nat.zero_mul, db_1, show dzb 0 = true from rfl]
  · have h : n2 B 6 / 8192 % 2 = 1 := by omega
    rw [h] at e ⊢
    simp only [F_13, B_13_21, (hp z w c s).1, (hp z w c s).2.1, dp_1, decide_true, dg_1, l_6, n119 (hp z w c s).2.2 hb hM hN (show 6 + 1 < M by omega), di_1, ec_eq, e, show ¬ nI (1 * 8192) = 0 by decide, decide_false, db_0, show dzb 1 = true from rfl]; rfl
theorem n14 (hp : pk a r N) (hb : cb z r M B) (hM : M ≤ N) (hN : N < 10000) (h0 : 20 ≤ M) : F_14 f a (hq z w c s) = some (.inl (some (.int (if n2 B 6 % 16384 = 0 then 0 else 1))), hq z w c s) := by
  have h1 := n2_lt hb.1 6
  have e := (nI_mask (a := n2 B 6) (by omega)).2.2.2.1
  by_cases h : n2 B 6 % 16384 = 0
  · rw [h] at e
    simp only [h, if_true, F_14, B_14_21, (hp z w c s).1, (hp z w c s).2.1, dp_1, decide_true, dg_1, l_6, n119 (hp z w c s).2.2 hb hM hN (show 6 + 1 < M by omega), di_1, ec_eq, e, nI_0, db_1, show dzb 0 = true from rfl]
  · have e3 : ¬ nI (n2 B 6 % 16384) = 0 := nI_ne0 (by omega) (by omega)
    simp only [h, if_false, F_14, B_14_21, (hp z w c s).1, (hp z w c s).2.1, dp_1, decide_true, dg_1, l_6, n119 (hp z w c s).2.2 hb hM hN (show 6 + 1 < M by omega), di_1, ec_eq, e, e3, decide_false, db_0, show dzb 1 = true from rfl]
theorem n15 (hp : pk a r N) (hb : cb z r M B) (hM : M ≤ N) (hN : N < 10000) (h0 : 20 ≤ M) : F_15 f a (hq z w c s) = some (.inl (some (.int (nI (n2 B 6 % 8192 * 8)))), hq z w c s) := by
  have h1 := n2_lt hb.1 6
  have e := (nI_mask (a := n2 B 6) (by omega)).2.2.1
  have e2 : nI (n2 B 6 % 8192) * (8 : Int32) = nI (n2 B 6 % 8192 * 8) := nI_mulN _ 8
  simp only [F_15, (hp z w c s).1, (hp z w c s).2.1, dp_1, decide_true, dg_1, l_6, n119 (hp z w c s).2.2 hb hM hN (show 6 + 1 < M by omega), di_1, e, e2]
theorem n16 (hp : pk a r N) (hb : cb z r M B) (hM : M ≤ N) (hN : N < 10000) (h0 : 20 ≤ M) : F_16 f a (hq z w c s) = some (.inl (some (.int (nI (B 8)))), hq z w c s) := by
  simp only [F_16, (hp z w c s).1, (hp z w c s).2.1, aib_k (hp z w c s).2.2, dp_1, hq_z, show Int32.toNatClampNeg 8 = 8 from rfl, hb.2 8 (by omega), decide_true, dg_1, show ev_in 8 N = true from ev_in_nI (i := 8) (by omega) (by omega)]
theorem n17 (hp : pk a r N) (hb : cb z r M B) (hM : M ≤ N) (hN : N < 10000) (h0 : 20 ≤ M) : F_17 f a (hq z w c s) = some (.inl (some (.int (nI (B 9)))), hq z w c s) := by
  simp only [F_17, (hp z w c s).1, (hp z w c s).2.1, aib_k (hp z w c s).2.2, dp_1, hq_z, show Int32.toNatClampNeg 9 = 9 from rfl, hb.2 9 (by omega), decide_true, dg_1, show ev_in 9 N = true from ev_in_nI (i := 9) (by omega) (by omega)]
theorem n18 (hp : pk a r N) (hb : cb z r M B) (hM : M ≤ N) (hN : N < 10000) (h0 : 20 ≤ M) : F_18 f a (hq z w c s) = some (.inl (some (.int (nI (n4 B 12)))), hq z w c s) := by
  simp only [F_18, (hp z w c s).1, (hp z w c s).2.1, dp_1, decide_true, dg_1, l_12, n120 (hp z w c s).2.2 hb hM hN (show 12 + 3 < M by omega), di_1]
theorem n19 (hp : pk a r N) (hb : cb z r M B) (hM : M ≤ N) (hN : N < 10000) (h0 : 20 ≤ M) : F_19 f a (hq z w c s) = some (.inl (some (.int (nI (n4 B 16)))), hq z w c s) := by
  simp only [F_19, (hp z w c s).1, (hp z w c s).2.1, dp_1, decide_true, dg_1, l_16, n120 (hp z w c s).2.2 hb hM hN (show 16 + 3 < M by omega), di_1]
end R
end Nat53
