section Nat52
theorem nI_bv (a : Nat) : (nI a).toBitVec = BitVec.ofNat 32 a := rfl
theorem nI_andN {a b : Nat} (ha : a < 2 ^ 32) (hb : b < 2 ^ 32) : nI a &&& nI b = nI (a &&& b) := by
  apply Int32.toBitVec_inj.mp
  apply BitVec.eq_of_toNat_eq
  rw [Int32.toBitVec_and, nI_bv, nI_bv, nI_bv, BitVec.toNat_and, BitVec.toNat_ofNat, BitVec.toNat_ofNat, BitVec.toNat_ofNat, Nat.mod_eq_of_lt ha, Nat.mod_eq_of_lt hb, Nat.mod_eq_of_lt (Nat.lt_of_le_of_lt Nat.and_le_left ha)]
theorem nI_orN {a b : Nat} (ha : a < 2 ^ 32) (hb : b < 2 ^ 32) : nI a ||| nI b = nI (a ||| b) := by
  apply Int32.toBitVec_inj.mp
  apply BitVec.eq_of_toNat_eq
  rw [Int32.toBitVec_or, nI_bv, nI_bv, nI_bv, BitVec.toNat_or, BitVec.toNat_ofNat, BitVec.toNat_ofNat, BitVec.toNat_ofNat, Nat.mod_eq_of_lt ha, Nat.mod_eq_of_lt hb, Nat.mod_eq_of_lt (Nat.or_lt_two_pow ha hb)]
theorem nI_mulN (a b : Nat) : nI a * nI b = nI (a * b) := (Int32.ofNat_mul a b).symm
theorem nI_subN {a b : Nat} (h : b ≤ a) : nI a - nI b = nI (a - b) := by
  have e : nI a = nI (a - b) + nI b := by rw [nI_add]; congr 1; omega
  rw [e, Int32.add_sub_cancel]
theorem nI_shl (a : Nat) : nI a <<< (8 : Int32) = nI (a * 256) ∧ nI a <<< (16 : Int32) = nI (a * 65536) ∧ nI a <<< (24 : Int32) = nI (a * 16777216) := by
  refine ⟨?_, ?_, ?_⟩ <;>
  · apply Int32.toBitVec_inj.mp
    apply BitVec.eq_of_toNat_eq
    rw [Int32.toBitVec_shiftLeft, nI_bv, nI_bv]
    simp [BitVec.toNat_ofNat, Nat.shiftLeft_eq, BitVec.smod, BitVec.msb]
theorem nI_shr {a : Nat} (ha : a < 2 ^ 31) : nI a >>> (8 : Int32) = nI (a / 256) ∧ nI a >>> (16 : Int32) = nI (a / 65536) ∧ nI a >>> (24 : Int32) = nI (a / 16777216) ∧ nI a >>> (4 : Int32) = nI (a / 16) := by
  refine ⟨?_, ?_, ?_, ?_⟩ <;>
  · apply Int32.toInt_inj.mp
    rw [nI_toInt (by omega), ← Int32.toInt_toBitVec, Int32.toBitVec_shiftRight, BitVec.sshiftRight_eq', BitVec.toInt_sshiftRight, Int32.toInt_toBitVec, nI_toInt ha]
    simp [Int.shiftRight_eq_div_pow, BitVec.smod, BitVec.msb]
theorem nI_divN {a b : Nat} (ha : a < 2 ^ 31) (hb : b < 2 ^ 31) : nI a / nI b = nI (a / b) := by
  apply Int32.toInt_inj.mp
  rw [Int32.toInt_div, nI_toInt ha, nI_toInt hb, nI_toInt (Nat.lt_of_le_of_lt (Nat.div_le_self a b) ha)]
  have h1 : ((a : Int).tdiv (b : Int)) = ((a / b : Nat) : Int) := by simp
  rw [h1]
  have h2 := Nat.div_le_self a b
  generalize a / b = q at h2
  apply Int.bmod_eq_of_le <;> omega
theorem nI_rem2 {a : Nat} (ha : a < 2 ^ 31) : nI a - nI a / (2 : Int32) * (2 : Int32) = nI (a % 2) := by
  rw [show (2 : Int32) = nI 2 from rfl, nI_divN ha (by omega), nI_mulN, nI_subN (by omega)]
  congr 1; omega
theorem nI_rem8 {a : Nat} (ha : a < 2 ^ 31) : nI a - nI a / (8 : Int32) * (8 : Int32) = nI (a % 8) := by
  rw [show (8 : Int32) = nI 8 from rfl, nI_divN ha (by omega), nI_mulN, nI_subN (by omega)]
  congr 1; omega
theorem nI_rem4 {a : Nat} (ha : a < 2 ^ 31) : nI a - nI a / (4 : Int32) * (4 : Int32) = nI (a % 4) := by
  rw [show (4 : Int32) = nI 4 from rfl, nI_divN ha (by omega), nI_mulN, nI_subN (by omega)]
  congr 1; omega
theorem nI_rem10 {a : Nat} (ha : a < 2 ^ 31) : nI a - nI a / (10 : Int32) * (10 : Int32) = nI (a % 10) := by
  rw [show (10 : Int32) = nI 10 from rfl, nI_divN ha (by omega), nI_mulN, nI_subN (by omega)]
  congr 1; omega
theorem nI_mask {a : Nat} (ha : a < 2 ^ 32) : nI a &&& (15 : Int32) = nI (a % 16) ∧ nI a &&& (255 : Int32) = nI (a % 256) ∧ nI a &&& (8191 : Int32) = nI (a % 8192) ∧ nI a &&& (16383 : Int32) = nI (a % 16384) ∧ nI a &&& (65535 : Int32) = nI (a % 65536) := by
  refine ⟨?_, ?_, ?_, ?_, ?_⟩
  · rw [show (15 : Int32) = nI 15 from rfl, nI_andN ha (by omega), show 15 = 2 ^ 4 - 1 from rfl, Nat.and_two_pow_sub_one_eq_mod]
  · rw [show (255 : Int32) = nI 255 from rfl, nI_andN ha (by omega), show 255 = 2 ^ 8 - 1 from rfl, Nat.and_two_pow_sub_one_eq_mod]
  · rw [show (8191 : Int32) = nI 8191 from rfl, nI_andN ha (by omega), show 8191 = 2 ^ 13 - 1 from rfl, Nat.and_two_pow_sub_one_eq_mod]
  · rw [show (16383 : Int32) = nI 16383 from rfl, nI_andN ha (by omega), show 16383 = 2 ^ 14 - 1 from rfl, Nat.and_two_pow_sub_one_eq_mod]
  · rw [show (65535 : Int32) = nI 65535 from rfl, nI_andN ha (by omega), show 65535 = 2 ^ 16 - 1 from rfl, Nat.and_two_pow_sub_one_eq_mod]
theorem bit_N (a k : Nat) : a &&& 2 ^ k = a / 2 ^ k % 2 * 2 ^ k := by
  apply Nat.eq_of_testBit_eq
  intro i
  rw [Nat.testBit_and, Nat.testBit_two_pow, Nat.testBit_mul_two_pow]
  by_cases h : k = i
  · subst h
    have := Nat.testBit_eq_decide_div_mod_eq (x := a) (i := k)
    simp [this]
  · by_cases h2 : k ≤ i
    · have h3 : a / 2 ^ k % 2 < 2 := by omega
      have h4 : (a / 2 ^ k % 2).testBit (i - k) = false := Nat.testBit_lt_two_pow (Nat.lt_of_lt_of_le h3 (by
        have := Nat.pow_le_pow_right (n := 2) (by omega) (show 1 ≤ i - k by omega)
        omega))
      simp [h, h4]
    · simp [h, h2]
theorem nI_bit {a : Nat} (ha : a < 2 ^ 32) : nI a &&& (8192 : Int32) = nI (a / 8192 % 2 * 8192) ∧ nI a &&& (16384 : Int32) = nI (a / 16384 % 2 * 16384) ∧ nI a &&& (32 : Int32) = nI (a / 32 % 2 * 32) ∧ nI a &&& (64 : Int32) = nI (a / 64 % 2 * 64) := by
  refine ⟨?_, ?_, ?_, ?_⟩
  · rw [show (8192 : Int32) = nI 8192 from rfl, nI_andN ha (by omega)]; exact congrArg nI (bit_N a 13)
  · rw [show (16384 : Int32) = nI 16384 from rfl, nI_andN ha (by omega)]; exact congrArg nI (bit_N a 14)
  · rw [show (32 : Int32) = nI 32 from rfl, nI_andN ha (by omega)]; exact congrArg nI (bit_N a 5)
  · rw [show (64 : Int32) = nI 64 from rfl, nI_andN ha (by omega)]; exact congrArg nI (bit_N a 6)
-- numbers of two and four bytes
theorem or_N {a b k : Nat} (hb : b < 2 ^ k) : a * 2 ^ k ||| b = a * 2 ^ k + b := by
  rw [← Nat.shiftLeft_eq, Nat.shiftLeft_add_eq_or_of_lt hb]
theorem n2_lt {B : Nat → Nat} (hB : ∀ i, B i < 256) (t : Nat) : n2 B t < 65536 := by
  have h1 := hB t
  have h2 := hB (t + 1)
  unfold n2; omega
theorem n4_lt {B : Nat → Nat} (hB : ∀ i, B i < 256) (t : Nat) : n4 B t < 2 ^ 32 := by
  have h1 := n2_lt hB t
  have h2 := n2_lt hB (t + 2)
  unfold n4; omega
theorem or8 {a b : Nat} (ha : a < 256) (hb : b < 256) : nI a <<< (8 : Int32) ||| nI b = nI (a * 256 + b) := by
  rw [(nI_shl a).1, nI_orN (by omega) (by omega)]
  exact congrArg nI (or_N (k := 8) hb)
theorem or16 {a b : Nat} (ha : a < 65536) (hb : b < 65536) : nI a <<< (16 : Int32) ||| nI b = nI (a * 65536 + b) := by
  rw [(nI_shl a).2.1, nI_orN (by omega) (by omega)]
  exact congrArg nI (or_N (k := 16) hb)
theorem or4 {a b d e : Nat} (ha : a < 256) (hb : b < 256) (hd : d < 256) (he : e < 256) : nI a <<< (24 : Int32) ||| nI b <<< (16 : Int32) ||| nI d <<< (8 : Int32) ||| nI e = nI ((a * 256 + b) * 65536 + (d * 256 + e)) := by
  rw [(nI_shl a).2.2, (nI_shl b).2.1, (nI_shl d).1, nI_orN (by omega) (by omega), nI_orN (Nat.or_lt_two_pow (by omega) (by omega)) (by omega), nI_orN (Nat.or_lt_two_pow (Nat.or_lt_two_pow (by omega) (by omega)) (by omega)) (by omega)]
  have h1 : a * 16777216 ||| b * 65536 = (a * 256 + b) * 65536 := by
    rw [show a * 16777216 = a * 2 ^ 24 by omega, or_N (k := 24) (by omega)]; omega
  have h2 : (a * 256 + b) * 65536 ||| d * 256 = (a * 256 + b) * 65536 + d * 256 := or_N (k := 16) (by omega)
  rw [h1, h2]
  have h3 : ((a * 256 + b) * 65536 + d * 256) ||| e = ((a * 256 + b) * 65536 + d * 256) + e := by
    rw [show (a * 256 + b) * 65536 + d * 256 = ((a * 256 + b) * 256 + d) * 2 ^ 8 by omega, or_N (k := 8) (by omega)]
  rw [h3]; exact congrArg nI (by omega)
-- the sum: what both add up, and its fold
def cf (T : Nat) : Nat := if T = 0 then 0 else (T - 1) % 65535 + 1
theorem cf_le (T : Nat) : cf T ≤ 65535 := by unfold cf; split <;> omega
theorem cf_step {T v : Nat} (hv : v ≤ 65280) : (cf T + v) % 65536 + (cf T + v) / 65536 = cf (T + v) := by
  unfold cf; split <;> split <;> omega
theorem cf_two {T : Nat} (hT : T < 2 ^ 30) : (T % 65536 + T / 65536) % 65536 + (T % 65536 + T / 65536) / 65536 = cf T := by
  unfold cf; split <;> omega
def sN (B : Nat → Nat) (at_ sk : Nat) : Nat → Nat
  | 0 => 0
  | k + 1 => sN B at_ sk k + (if k = sk ∨ k = sk + 1 then 0 else if k % 2 = 0 then B (at_ + k) * 256 else B (at_ + k))
theorem sN_le {B : Nat → Nat} (hB : ∀ i, B i < 256) (at_ sk : Nat) : ∀ k, sN B at_ sk k ≤ k * 65280
  | 0 => Nat.zero_le _
  | k + 1 => by
    have h1 := sN_le hB at_ sk k
    have h2 := hB (at_ + k)
    have h3 : (if k = sk ∨ k = sk + 1 then 0 else if k % 2 = 0 then B (at_ + k) * 256 else B (at_ + k)) ≤ 65280 := by
      split
      · omega
      · split <;> omega
    exact Nat.le_trans (Nat.add_le_add h1 h3) (Nat.le_of_eq (Nat.succ_mul k 65280).symm)
theorem sN_0 {B : Nat → Nat} {at_ sk k : Nat} (h : k = sk ∨ k = sk + 1) : sN B at_ sk (k + 1) = sN B at_ sk k := by
  simp only [sN, h, if_true]; rfl
theorem sN_eq {B C : Nat → Nat} {at_ a2 sk : Nat} : ∀ k, (∀ i, i < k → B (at_ + i) = C (a2 + i)) → sN B at_ sk k = sN C a2 sk k
  | 0, _ => rfl
  | k + 1, h => by
    unfold sN
    rw [sN_eq k (fun i hi => h i (by omega)), h k (by omega)]
theorem sN_sk {B C : Nat → Nat} {at_ sk : Nat} : ∀ k, (∀ i, i < k → i ≠ sk → i ≠ sk + 1 → B (at_ + i) = C (at_ + i)) → sN B at_ sk k = sN C at_ sk k
  | 0, _ => rfl
  | k + 1, h => by
    unfold sN
    rw [sN_sk k (fun i hi => h i (by omega))]
    by_cases h1 : k = sk ∨ k = sk + 1
    · rw [if_pos h1, if_pos h1]
    · rw [if_neg h1, if_neg h1, h k (by omega) (by omega) (by omega)]
def ck (T : Nat) : Nat := 65535 - cf T
theorem ck_lt (T : Nat) : ck T < 65536 := by unfold ck; omega
theorem nI_not {x : Nat} (hx : x ≤ 65535) : (nI x ^^^ (-1 : Int32)) &&& (65535 : Int32) = nI (65535 - x) := by
  apply Int32.toBitVec_inj.mp
  apply BitVec.eq_of_toNat_eq
  rw [Int32.toBitVec_and, Int32.toBitVec_xor, nI_bv, nI_bv, show (-1 : Int32).toBitVec = BitVec.allOnes 32 from rfl, BitVec.xor_allOnes, BitVec.toNat_and, BitVec.toNat_not, show (65535 : Int32).toBitVec.toNat = 2 ^ 16 - 1 from rfl, Nat.and_two_pow_sub_one_eq_mod, BitVec.toNat_ofNat, BitVec.toNat_ofNat]
  omega
theorem fold_c {T : Nat} (hT : T < 2 ^ 30) : ((((((nI T &&& (65535 : Int32)) + ((nI T).toUInt32 >>> (((16 : Int32)).toUInt32 &&& Int32.toUInt32 31)).toInt32) &&& (65535 : Int32)) + ((((nI T &&& (65535 : Int32)) + ((nI T).toUInt32 >>> (((16 : Int32)).toUInt32 &&& Int32.toUInt32 31)).toInt32)).toUInt32 >>> (((16 : Int32)).toUInt32 &&& Int32.toUInt32 31)).toInt32) ^^^ (-1 : Int32)) &&& (65535 : Int32)) = nI (ck T) := by
  have h0 : (((16 : Int32).toUInt32 &&& Int32.toUInt32 31).toBitVec % 32).toNat = 16 := by decide
  rw [pk_ushrN (by omega) (16 : Int32) 16 h0, (nI_mask (a := T) (by omega)).2.2.2.2, nI_add, pk_ushrN (by omega) (16 : Int32) 16 h0, (nI_mask (by omega)).2.2.2.2, nI_add]
  rw [show (T % 65536 + T / 2 ^ 16) % 65536 + (T % 65536 + T / 2 ^ 16) / 2 ^ 16 = cf T from cf_two hT, nI_not (cf_le T)]
  rfl
theorem fold_m {s v : Nat} (h : s + v < 2 ^ 31) : ((nI s + nI v) &&& (65535 : Int32)) + ((nI s + nI v) >>> ((16 : Int32) &&& 31)) = nI ((s + v) % 65536 + (s + v) / 65536) := by
  rw [nI_add, c16, (nI_mask (by omega)).2.2.2.2, (nI_shr h).2.1, nI_add]
theorem aib_nI {t N a i : Nat} {h : hp_T} (hk : hp_k h a = some (t, N)) (hi : i < N) (hN : N < 2 ^ 31) : aib t h a (nI i) = true := by
  rw [aib_k hk]; exact ev_in_nI hi hN
variable {f c s : Nat} {w : Nat → Option Nat}
theorem t123_l {r N at_ sk n : Nat} {B : Nat → Nat} {z : Nat → Nat → Int32} (hk : ∀ z, hp_k (hq z w c s) r = some (65, N)) (hN : N ≤ 10000) (hn : at_ + n ≤ N) (hs : sk < 10000) (hB : ∀ i, B i < 256) (hb : ∀ i, at_ ≤ i → i < at_ + n → z r i &&& 255 = nI (B i)) : ∀ (q k g : Nat), k + q = n → q < g → B_123_6 f g r (nI at_) (nI n) (nI (at_ + sk)) (nI (sN B at_ sk k)) (nI k) (hq z w c s) = some (.inl (some (.int (nI (ck (sN B at_ sk n))))), hq z w c s) := by
  intro q
  induction q with
  | zero =>
    intro k g h1 h2
    obtain ⟨g, rfl⟩ : ∃ g', g = g' + 1 := ⟨g - 1, by omega⟩
    have h3 : nI n ≤ nI k := nI_le (by omega) (by omega)
    have h4 := sN_le hB at_ sk n
    have e : k = n := by omega
    subst e
    simp only [B_123_6, ec_ge, h3, decide_true, db_1]
    rw [fold_c (by omega)]
  | succ q ih =>
    intro k g h1 h2
    obtain ⟨g, rfl⟩ : ∃ g', g = g' + 1 := ⟨g - 1, by omega⟩
    have h3 : ¬ nI n ≤ nI k := nI_ge (by omega) (by omega)
    have hi := ih (k + 1) g (by omega) (by omega)
    have hb1 := hb (at_ + k) (by omega) (by omega)
    have hB1 := hB (at_ + k)
    have hc1 : (nI (at_ + k)).toNatClampNeg = at_ + k := nI_clamp (by omega)
    have ha1 : aib 65 (hq z w c s) r (nI (at_ + k)) = true := aib_nI (hk z) (by omega) (by omega)
    by_cases e1 : k = sk
    · have e2 : nI (at_ + k) = nI (at_ + sk) := by rw [e1]
      simp only [B_123_6, B_123_66, ec_ge, ec_eq, h3, decide_false, decide_true, db_0, db_1, nI_add, e2, eq_self]
      rw [nI_1, ← hi, sN_0 (Or.inl e1)]
    · have e2 : ¬ nI (at_ + k) = nI (at_ + sk) := by rw [nI_eq (by omega) (by omega)]; omega
      by_cases e3 : k = sk + 1
      · have e4 : nI (at_ + k) = nI (at_ + sk + 1) := by rw [e3]; rfl
        rw [e4] at e2
        simp only [B_123_6, B_123_66, ec_ge, ec_eq, h3, decide_false, decide_true, db_0, db_1, nI_add, nI_1, e2, e4, eq_self]
        rw [← hi, sN_0 (Or.inr e3)]
      · have e4 : ¬ nI (at_ + k) = nI (at_ + sk + 1) := by rw [nI_eq (by omega) (by omega)]; omega
        by_cases e5 : k % 2 = 0
        · have e6 : (nI (k % 2) = 0) := by rw [e5]; rfl
          simp only [B_123_6, B_123_66, B_123_63, ec_ge, ec_eq, ec_ne, h3, decide_false, decide_true, db_0, db_1, dg_1, nI_add, nI_1, e2, e4, e6, nI_rem2 (show k < 2 ^ 31 by omega), not_true_eq_false, ha1, hc1, hq_z, hb1, c8, (nI_shl _).1]
          rw [← hi]
          simp only [sN, show ¬ (k = sk ∨ k = sk + 1) by omega, if_false, e5, if_true]
        · have e6 : ¬ (nI (k % 2) = 0) := nI_ne0 (by omega) (by omega)
          simp only [B_123_6, B_123_66, B_123_63, ec_ge, ec_eq, ec_ne, h3, decide_false, decide_true, db_0, db_1, dg_1, nI_add, nI_1, e2, e4, e6, nI_rem2 (show k < 2 ^ 31 by omega), not_false_eq_true, ha1, hc1, hq_z, hb1]
          rw [← hi]
          simp only [sN, show ¬ (k = sk ∨ k = sk + 1) by omega, if_false, e5]
theorem t123 {r N at_ sk n : Nat} {B : Nat → Nat} {z : Nat → Nat → Int32} (hk : ∀ z, hp_k (hq z w c s) r = some (65, N)) (hN : N ≤ 10000) (hn : at_ + n ≤ N) (hs : sk < 10000) (hB : ∀ i, B i < 256) (hb : ∀ i, at_ ≤ i → i < at_ + n → z r i &&& 255 = nI (B i)) (hf : n < f) : F_123 f r (nI at_) (nI n) (nI (at_ + sk)) (hq z w c s) = some (.inl (some (.int (nI (ck (sN B at_ sk n))))), hq z w c s) :=
  t123_l (f := f) hk hN hn hs hB hb n 0 f (by omega) hf
theorem t87_l {r N at_ sk n : Nat} {B : Nat → Nat} {z : Nat → Nat → Int32} (hk : ∀ z, hp_k (hq z w c s) r = some (64, N)) (hN : N ≤ 10000) (hn : at_ + n ≤ N) (hs : sk < 10000) (hB : ∀ i, B i < 256) (hb : ∀ i, at_ ≤ i → i < at_ + n → i ≠ at_ + sk → i ≠ at_ + sk + 1 → z r i = nI (B i)) : ∀ (q k g : Nat), k + q = n → q < g → B_87_6 f g r (nI at_) (nI n) (nI sk) (nI (cf (sN B at_ sk k))) (nI k) (hq z w c s) = some (.inl (some (.int (nI (ck (sN B at_ sk n))))), hq z w c s) := by
  intro q
  induction q with
  | zero =>
    intro k g h1 h2
    obtain ⟨g, rfl⟩ : ∃ g', g = g' + 1 := ⟨g - 1, by omega⟩
    have h3 : nI n ≤ nI k := nI_le (by omega) (by omega)
    have e : k = n := by omega
    subst e
    simp only [B_87_6, ec_ge, h3, decide_true, db_1]
    rw [nI_not (cf_le _)]; rfl
  | succ q ih =>
    intro k g h1 h2
    obtain ⟨g, rfl⟩ : ∃ g', g = g' + 1 := ⟨g - 1, by omega⟩
    have h3 : ¬ nI n ≤ nI k := nI_ge (by omega) (by omega)
    have hi := ih (k + 1) g (by omega) (by omega)
    have hB1 := hB (at_ + k)
    have hc1 : (nI (at_ + k)).toNatClampNeg = at_ + k := nI_clamp (by omega)
    have ha1 : aib 64 (hq z w c s) r (nI (at_ + k)) = true := aib_nI (hk z) (by omega) (by omega)
    have hcf := cf_le (sN B at_ sk k)
    have hz0 : (0 : Int32) <<< (8 : Int32) = nI 0 := by decide
    have h00 : (0 : Int32) = nI 0 := rfl
    by_cases e0 : k = sk ∨ k = sk + 1
    · have hs0 : sN B at_ sk (k + 1) = sN B at_ sk k := by
        simp only [sN, e0, if_true]; rfl
      have hst := cf_step (T := sN B at_ sk k) (v := 0) (by omega)
      rw [hs0] at hi
      rw [← hi]
      have e9 : B_87_6 f (g + 1) r (nI at_) (nI n) (nI sk) (nI (cf (sN B at_ sk k))) (nI k) (hq z w c s) = B_87_26 f (B_87_6 f g) r (nI at_) (nI n) (nI sk) (nI (cf (sN B at_ sk k))) (nI k) (hq z w c s) := by
        by_cases e1 : k = sk
        · subst e1
          simp only [B_87_6, ec_ge, ec_eq, h3, decide_false, decide_true, db_0, db_1, eq_self]
        · have e2 : ¬ nI k = nI sk := by rw [nI_eq (by omega) (by omega)]; omega
          have e4 : k = sk + 1 := by omega
          subst e4
          simp only [B_87_6, ec_ge, ec_eq, ec_ne, h3, e2, decide_false, decide_true, db_0, db_1, nI_1, not_true_eq_false]
      rw [e9]
      by_cases e5 : k % 2 = 0
      · have e6 : (nI (k % 2) = 0) := by rw [e5]; rfl
        simp only [B_87_26, B_87_36, B_87_57, ec_ne, nI_rem2 (show k < 2 ^ 31 by omega), e6, not_true_eq_false, decide_false, db_0, c8, hz0, nI_1]
        rw [fold_m (by omega), hst]; rfl
      · have e6 : ¬ (nI (k % 2) = 0) := nI_ne0 (by omega) (by omega)
        simp only [B_87_26, B_87_36, B_87_57, ec_ne, nI_rem2 (show k < 2 ^ 31 by omega), e6, not_false_eq_true, decide_true, db_1, nI_1]
        rw [h00, fold_m (by omega), hst]; rfl
    · have e2 : ¬ nI k = nI sk := by rw [nI_eq (by omega) (by omega)]; omega
      have e4 : ¬ nI k = nI (sk + 1) := by rw [nI_eq (by omega) (by omega)]; omega
      have hb1 := hb (at_ + k) (by omega) (by omega) (by omega) (by omega)
      by_cases e5 : k % 2 = 0
      · have e6 : (nI (k % 2) = 0) := by rw [e5]; rfl
        have hs0 : sN B at_ sk (k + 1) = sN B at_ sk k + B (at_ + k) * 256 := by
          simp only [sN, e0, if_false, e5, if_true]
        have hst := cf_step (T := sN B at_ sk k) (v := B (at_ + k) * 256) (by omega)
        rw [hs0] at hi
        rw [← hi]
        simp only [B_87_6, B_87_36, B_87_57, ec_ge, ec_eq, ec_ne, h3, decide_false, decide_true, db_0, db_1, dg_1, nI_add at_, nI_1, e2, e4, e6, nI_rem2 (show k < 2 ^ 31 by omega), not_true_eq_false, not_false_eq_true, ha1, hc1, hq_z, hb1, c8, (nI_shl _).1]
        rw [fold_m (by omega), hst]
      · have e6 : ¬ (nI (k % 2) = 0) := nI_ne0 (by omega) (by omega)
        have hs0 : sN B at_ sk (k + 1) = sN B at_ sk k + B (at_ + k) := by
          simp only [sN, e0, if_false, e5]
        have hst := cf_step (T := sN B at_ sk k) (v := B (at_ + k)) (by omega)
        rw [hs0] at hi
        rw [← hi]
        simp only [B_87_6, B_87_36, B_87_57, ec_ge, ec_eq, ec_ne, h3, decide_false, decide_true, db_0, db_1, dg_1, nI_add at_, nI_1, e2, e4, e6, nI_rem2 (show k < 2 ^ 31 by omega), not_false_eq_true, ha1, hc1, hq_z, hb1]
        rw [fold_m (by omega), hst]
theorem t87 {r N at_ sk n : Nat} {B : Nat → Nat} {z : Nat → Nat → Int32} (hk : ∀ z, hp_k (hq z w c s) r = some (64, N)) (hN : N ≤ 10000) (hn : at_ + n ≤ N) (hs : sk < 10000) (hB : ∀ i, B i < 256) (hb : ∀ i, at_ ≤ i → i < at_ + n → i ≠ at_ + sk → i ≠ at_ + sk + 1 → z r i = nI (B i)) (hf : n < f) : F_87 f r (nI at_) (nI n) (nI sk) (hq z w c s) = some (.inl (some (.int (nI (ck (sN B at_ sk n))))), hq z w c s) :=
  t87_l (f := f) hk hN hn hs hB hb n 0 f (by omega) hf
end Nat52
