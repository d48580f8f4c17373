-- writes, in bytes as natural numbers
section Write57
variable {r N M t f c s : Nat} {B : Nat → Nat} {z : Nat → Nat → Int32} {w : Nat → Option Nat}
def b1 (B : Nat → Nat) (t v : Nat) : Nat → Nat := fun i => if i = t then v else B i
def bu2 (B : Nat → Nat) (t v : Nat) : Nat → Nat := b1 (b1 B t (v / 256 % 256)) (t + 1) (v % 256)
def bu4 (B : Nat → Nat) (t V : Nat) : Nat → Nat := b1 (b1 (b1 (b1 B t (V / 16777216 % 256)) (t + 1) (V / 65536 % 256)) (t + 2) (V / 256 % 256)) (t + 3) (V % 256)
theorem b1_lt (hB : ∀ i, B i < 256) {v : Nat} (hv : v < 256) : ∀ i, b1 B t v i < 256 := fun i => by unfold b1; split; exact hv; exact hB i
theorem bu2_lt (hB : ∀ i, B i < 256) (v : Nat) : ∀ i, bu2 B t v i < 256 := b1_lt (b1_lt hB (by omega)) (by omega)
theorem bu4_lt (hB : ∀ i, B i < 256) (v : Nat) : ∀ i, bu4 B t v i < 256 := b1_lt (b1_lt (b1_lt (b1_lt hB (by omega)) (by omega)) (by omega)) (by omega)
theorem bu22 (V : Nat) : bu2 (bu2 B t (V / 65536)) (t + 2) (V % 65536) = bu4 B t V := by
  funext i
  simp only [bu2, bu4, b1]
  rw [show V / 65536 / 256 % 256 = V / 16777216 % 256 by omega, show V % 65536 / 256 % 256 = V / 256 % 256 by omega, show V % 65536 % 256 = V % 256 by omega]
-- the class
def bz (z : Nat → Nat → Int32) (r : Nat) : Nat → Nat := fun i => (z r i &&& 255).toNatClampNeg
theorem and255 (x : Int32) : ∃ b, b < 256 ∧ x &&& 255 = nI b := by
  refine ⟨(x &&& 255).toBitVec.toNat, ?_, ?_⟩
  · rw [Int32.toBitVec_and, BitVec.toNat_and, show (255 : Int32).toBitVec.toNat = 2 ^ 8 - 1 from rfl, Nat.and_two_pow_sub_one_eq_mod]; omega
  · apply Int32.toBitVec_inj.mp
    rw [nI_bv, BitVec.ofNat_toNat, BitVec.setWidth_eq]
theorem bz_eq (z : Nat → Nat → Int32) (r i : Nat) : z r i &&& 255 = nI (bz z r i) := by
  obtain ⟨b, h1, h2⟩ := and255 (z r i)
  unfold bz; rw [h2, nI_clamp (by omega)]
theorem bz_lt (z : Nat → Nat → Int32) (r i : Nat) : bz z r i < 256 := by
  obtain ⟨b, h1, h2⟩ := and255 (z r i)
  unfold bz; rw [h2, nI_clamp (by omega)]; exact h1
theorem cb_bz (z : Nat → Nat → Int32) (r M : Nat) : cb z r M (bz z r) := ⟨bz_lt z r, fun i _ => bz_eq z r i⟩
theorem bz_of {i b : Nat} (hb : b < 256) (h : z r i &&& 255 = nI b) : bz z r i = b := by unfold bz; rw [h, nI_clamp (by omega)]
theorem cb_of {B C : Nat → Nat} (h : cb z r M B) (hC : ∀ i, C i < 256) (e : ∀ i, i < M → B i = C i) : cb z r M C := ⟨hC, fun i hi => by rw [← e i hi]; exact h.2 i hi⟩
theorem mb_of {B C : Nat → Nat} (h : mb z r M B) (hC : ∀ i, C i < 256) (e : ∀ i, i < M → B i = C i) : mb z r M C := ⟨hC, fun i hi => by rw [← e i hi]; exact h.2 i hi⟩
theorem nI_all (x : Int32) : ∃ V, V < 2 ^ 32 ∧ x = nI V := by
  refine ⟨x.toBitVec.toNat, x.toBitVec.isLt, ?_⟩
  apply Int32.toBitVec_inj.mp
  rw [nI_bv, BitVec.ofNat_toNat, BitVec.setWidth_eq]
theorem shq_and {V n : Nat} (hV : V < 2 ^ 32) (hn : n ≤ 24) : (BitVec.ofNat 32 V).sshiftRight n &&& 255#32 = BitVec.ofNat 32 (V / 2 ^ n % 256) := by
  apply BitVec.eq_of_getLsbD_eq
  intro i hi
  rw [BitVec.getLsbD_and, BitVec.getLsbD_sshiftRight, BitVec.getLsbD_ofNat, show (255 : Nat) = 2 ^ 8 - 1 from rfl, BitVec.getLsbD_ofNat, Nat.testBit_two_pow_sub_one, BitVec.getLsbD_ofNat, show 256 = 2 ^ 8 from rfl, Nat.testBit_mod_two_pow, Nat.testBit_div_two_pow]
  by_cases h8 : i < 8
  · simp only [hi, decide_true, h8, Bool.true_and, Bool.and_true, show n + i < 32 by omega, if_true, show ¬ 32 ≤ i by omega, decide_false, Bool.not_false, Nat.add_comm i n]
  · simp [h8]
theorem shq_v {V : Nat} (hV : V < 2 ^ 32) : (nI V >>> (24 : Int32)) &&& 255 = nI (V / 16777216 % 256) ∧ (nI V >>> (16 : Int32)) &&& 255 = nI (V / 65536 % 256) ∧ (nI V >>> (8 : Int32)) &&& 255 = nI (V / 256 % 256) := by
  refine ⟨?_, ?_, ?_⟩
  · apply Int32.toBitVec_inj.mp
    rw [Int32.toBitVec_and, Int32.toBitVec_shiftRight, BitVec.sshiftRight_eq']
    exact shq_and hV (n := 24) (by omega)
  · apply Int32.toBitVec_inj.mp
    rw [Int32.toBitVec_and, Int32.toBitVec_shiftRight, BitVec.sshiftRight_eq']
    exact shq_and hV (n := 16) (by omega)
  · apply Int32.toBitVec_inj.mp
    rw [Int32.toBitVec_and, Int32.toBitVec_shiftRight, BitVec.sshiftRight_eq']
    exact shq_and hV (n := 8) (by omega)
theorem bz_up {g : Nat → Int32} {v : Int32} {b : Nat} (hb : b < 256) (hv : v &&& 255 = nI b) : bz (va_up z r (upd (z r) t v)) r = b1 (bz z r) t b := by
  funext i
  unfold bz b1
  rw [va_up_self, upd_if]
  split
  · rw [hv, nI_clamp (by omega)]
  · rfl
theorem bz_ne {r2 : Nat} {g : Nat → Int32} (h : r2 ≠ r) : bz (va_up z r g) r2 = bz z r2 := by unfold bz; rw [va_up_ne _ _ h]
theorem bz_w2 {v : Nat} (hv : v < 2 ^ 32) : bz (va_up z r (w2 (z r) t (nI v))) r = bu2 (bz z r) t v := by
  funext i
  unfold bz bu2 b1 w2
  rw [va_up_self, upd_if, upd_if]
  split
  · rw [by_and, (nI_mask hv).2.1, nI_clamp (by omega)]
  · split
    · rw [by_and, c8, (shq_v hv).2.2, nI_clamp (by omega)]
    · rfl
theorem bz_w4 {v : Nat} (hv : v < 2 ^ 32) : bz (va_up z r (w4 (z r) t (nI v))) r = bu4 (bz z r) t v := by
  funext i
  unfold bz bu4 b1 w4
  rw [va_up_self, upd_if, upd_if, upd_if, upd_if]
  split
  · rw [by_and, (nI_mask hv).2.1, nI_clamp (by omega)]
  · split
    · rw [by_and, c8, (shq_v hv).2.2, nI_clamp (by omega)]
    · split
      · rw [by_and, c16, (shq_v hv).2.1, nI_clamp (by omega)]
      · split
        · rw [by_and, c24, (shq_v hv).1, nI_clamp (by omega)]
        · rfl
theorem bz_cpz {X Y s d q i : Nat} : bz (cpz z X Y s d q) X i = if d ≤ i ∧ i < d + q then bz z Y (s + (i - d)) else bz z X i := by
  unfold bz; rw [cpz_at]
  split <;> rfl
theorem bz_cne {X Y s d q r : Nat} (h : r ≠ X) : bz (cpz z X Y s d q) r = bz z r := by unfold bz; rw [cpz_ne h]
theorem br_w2 {g : Nat → Int32} {v : Int32} (hg : ∀ i, br (g i)) : ∀ i, br (w2 g t v i) := br_upd (br_upd hg (br_n _)) (br_n _)
theorem br_cpz {X Y s d q : Nat} (hX : ∀ i, br (z X i)) (hY : ∀ i, br (z Y i)) : ∀ i, br (cpz z X Y s d q X i) := fun i => by
  rw [cpz_at]; split; exact hY _; exact hX _
-- the reference
def u2z (z : Nat → Nat → Int32) (r t v : Nat) : Nat → Nat → Int32 := va_up z r (upd (upd (z r) t (nI (v / 256 % 256))) (t + 1) (nI (v % 256)))
theorem u2z_ne {a v : Nat} (h : a ≠ r) : u2z z r t v a = z a := va_up_ne _ _ h
theorem m88 {v : Nat} (hk : ∀ z, hp_k (hq z w c s) r = some (64, N)) (hN : N < 100000) (ht : t + 1 < N) (hv : v < 2 ^ 31) : F_88 f r (nI t) (nI v) (hq z w c s) = some (.inl none, hq (u2z z r t v) w c s) := by
  have q1 := (nI_shr (a := v) hv).1
  have q2 := (nI_mask (a := v / 256) (by omega)).2.1
  have q3 := (nI_mask (a := v) (by omega)).2.1
  have i1 : ev_in (nI t) N = true := ev_in_nI (by omega) (by omega)
  have i2 : ev_in (nI (t + 1)) N = true := ev_in_nI (by omega) (by omega)
  have k1 : (nI t).toNatClampNeg = t := nI_clamp (by omega)
  have k2 : (nI (t + 1)).toNatClampNeg = t + 1 := nI_clamp (by omega)
  simp only [F_88, aib_k (hk _), hq_wz, nI_1, i1, i2, k1, k2, c8, q1, q2, q3, dg_1, dl_1, va_up_self, va_up2, u2z]
theorem m91 {V : Nat} (hk : ∀ z, hp_k (hq z w c s) r = some (64, N)) (hN : N < 100000) (ht : t + 3 < N) (hv : V < 2 ^ 32) : F_91 f r (nI t) (nI V) (hq z w c s) = some (.inl none, hq (u2z (u2z z r t (V / 65536)) r (t + 2) (V % 65536)) w c s) := by
  have q1 := pk_ushrN hv (16 : Int32) 16 (by decide)
  have q2 := (nI_mask (a := V) hv).2.2.2.2
  have q3 := fun z => m88 (f := f) (z := z) (t := t) (v := V / 65536) hk hN (by omega) (by omega)
  have q4 := fun z => m88 (f := f) (z := z) (t := t + 2) (v := V % 65536) hk hN (by omega) (by omega)
  rw [show (2 : Nat) ^ 16 = 65536 from rfl] at q1
  simp only [F_91, q1, q2, q3, q4, nI_k2, dv_1]
theorem mb_ne {r2 : Nat} {g : Nat → Int32} (h : r2 ≠ r) (hb : mb z r2 M B) : mb (va_up z r g) r2 M B := ⟨hb.1, fun i hi => by rw [va_up_ne _ _ h]; exact hb.2 i hi⟩
theorem mb_un {r2 v : Nat} (h : r2 ≠ r) (hb : mb z r2 M B) : mb (u2z z r t v) r2 M B := mb_ne h hb
theorem mb_cn {X Y s d q r2 : Nat} (h : r2 ≠ X) (hb : mb z r2 M B) : mb (cpz z X Y s d q) r2 M B := mb_ne h hb
theorem mb_1 {M2 v : Nat} (hb : mb z r M B) (hv : v < 256) (hM : ∀ i, i < M2 → i ≠ t → i < M) : mb (va_up z r (upd (z r) t (nI v))) r M2 (b1 B t v) := by
  refine ⟨b1_lt hb.1 hv, fun i hi => ?_⟩
  rw [va_up_self, upd_if]
  unfold b1
  by_cases h : i = t
  · rw [if_pos h, if_pos h]
  · rw [if_neg h, if_neg h]; exact hb.2 i (hM i hi h)
theorem mb_u2 {M2 v : Nat} (hb : mb z r M B) (hM : ∀ i, i < M2 → i ≠ t → i ≠ t + 1 → i < M) : mb (u2z z r t v) r M2 (bu2 B t v) := by
  refine ⟨bu2_lt hb.1 v, fun i hi => ?_⟩
  unfold u2z bu2 b1
  rw [va_up_self, upd_if, upd_if]
  by_cases h : i = t + 1
  · rw [if_pos h, if_pos h]
  · rw [if_neg h, if_neg h]
    by_cases h2 : i = t
    · rw [if_pos h2, if_pos h2]
    · rw [if_neg h2, if_neg h2]; exact hb.2 i (hM i hi h2 h)
theorem mb_cp {X Y s d q M1 M2 : Nat} {C : Nat → Nat} (hX : mb z X M1 B) (hY : mb z Y M C) (h1 : s + q ≤ M) (h2 : ∀ i, i < M2 → ¬ (d ≤ i ∧ i < d + q) → i < M1) : mb (cpz z X Y s d q) X M2 (fun i => if d ≤ i ∧ i < d + q then C (s + (i - d)) else B i) := by
  refine ⟨fun i => ?_, fun i hi => ?_⟩
  · show (if d ≤ i ∧ i < d + q then C (s + (i - d)) else B i) < 256
    split
    · exact hY.1 _
    · exact hX.1 _
  · rw [cpz_at]
    show _ = nI (if d ≤ i ∧ i < d + q then C (s + (i - d)) else B i)
    by_cases h : d ≤ i ∧ i < d + q
    · rw [if_pos h, if_pos h]; exact hY.2 _ (by omega)
    · rw [if_neg h, if_neg h]; exact hX.2 i (h2 i hi h)
end Write57
