-- header and options: what both find wrong
section Head54
theorem i8_and (x : Int32) : (x &&& 255).toInt8 = x.toInt8 := by
  have h := by_idem x
  have h2 := by_and x
  apply Int8.toBitVec_inj.mp
  rw [Int32.toBitVec_toInt8, Int32.toBitVec_toInt8, Int32.toBitVec_and]
  apply BitVec.eq_of_toNat_eq
  have h1 : (255 : Int32).toBitVec.toNat = 2 ^ 8 - 1 := by decide
  rw [BitVec.signExtend_eq_setWidth_of_le _ (by omega), BitVec.signExtend_eq_setWidth_of_le _ (by omega), BitVec.toNat_setWidth, BitVec.toNat_setWidth, BitVec.toNat_and, h1, Nat.and_two_pow_sub_one_eq_mod]
  omega
theorem sb_tab : ∀ b : Fin 256, ((nI b.val).toInt8.toInt32 = 0 ↔ b.val = 0) ∧ ((nI b.val).toInt8.toInt32 = 1 ↔ b.val = 1) ∧ ((nI b.val).toInt8.toInt32 = 8 ↔ b.val = 8) ∧ ((nI b.val).toInt8.toInt32 < 0 ↔ 128 ≤ b.val) ∧ (0 ≤ (nI b.val).toInt8.toInt32 ↔ b.val < 128) ∧ (nI b.val &&& 240 = 64 ↔ b.val / 16 = 4) := by decide +kernel
theorem sb_all {x : Int32} {b : Nat} (hr : br x) (hx : x &&& 255 = nI b) (hb : b < 256) : (x = 0 ↔ b = 0) ∧ (x = 1 ↔ b = 1) ∧ (x = 8 ↔ b = 8) ∧ (x < 0 ↔ 128 ≤ b) ∧ (0 ≤ x ↔ b < 128) := by
  have h1 : x = (nI b).toInt8.toInt32 := by rw [← hx, i8_and]; exact hr.symm
  have h2 := sb_tab ⟨b, hb⟩
  rw [h1]
  exact ⟨h2.1, h2.2.1, h2.2.2.1, h2.2.2.2.1, h2.2.2.2.2.1⟩
def opz (B : Nat → Nat) (t e : Nat) : Nat := if B t = 1 then 1 else if e ≤ t + 1 then 0 else if B (t + 1) < 2 ∨ e < t + B (t + 1) then 0 else B (t + 1)
def woN (B : Nat → Nat) (e : Nat) : Nat → Nat → Option Nat
  | 0, _ => none
  | g + 1, t => if e ≤ t ∨ B t = 0 then none else if opz B t e = 0 then some t else woN B e g (t + opz B t e)
def woI (x : Option Nat) : Int32 := match x with
  | none => -1
  | some t => nI t
def hfN (B : Nat → Nat) (n : Nat) : Nat := if n < 20 then 1 else if ¬ B 0 / 16 = 4 then 2 else if hl B < 20 ∨ n < hl B then 3 else if n2 B 2 < hl B ∨ n < n2 B 2 then 4 else if ¬ ck (sN B 0 10 (hl B)) = n2 B 10 then 5 else if B 12 = 127 ∨ 223 < B 12 ∨ 65535 < n2 B 6 % 8192 * 8 + (n2 B 2 - hl B) then 6 else 0
theorem opz_le {B : Nat → Nat} {t e : Nat} (h : t < e) : t + opz B t e ≤ e := by
  unfold opz; split
  · omega
  · split
    · omega
    · split <;> omega
variable {a r N M f c s : Nat} {B : Nat → Nat} {z : Nat → Nat → Int32} {w : Nat → Option Nat}
theorem n22 {t e : Nat} (hp : pk a r N) (hb : cb z r M B) (hr : ∀ i, br (z r i)) (hM : M ≤ N) (hN : N < 10000) (ht : t < e) (he : e ≤ M) : F_22 f a (nI t) (nI e) (hq z w c s) = some (.inl (some (.int (nI (opz B t e)))), hq z w c s) := by
  have b0 := hb.1 t
  have b1 := hb.1 (t + 1)
  have s0 := sb_all (hr t) (hb.2 t (by omega)) b0
  have a0 : aib 65 (hq z w c s) r (nI t) = true := aib_nI (hp z w c s).2.2 (by omega) (by omega)
  have c0 : (nI t).toNatClampNeg = t := nI_clamp (by omega)
  by_cases h1 : B t = 1
  · simp only [F_22, (hp z w c s).1, (hp z w c s).2.1, dp_1, decide_true, dg_1, a0, c0, hq_z, ec_ne, s0.2.1.mpr h1, not_true_eq_false, decide_false, db_0, opz, h1, if_true]; rfl
  · have h1' : ¬ z r t = 1 := fun h => h1 (s0.2.1.mp h)
    by_cases h2 : e ≤ t + 1
    · have h2' : ¬ nI (t + 1) < nI e := nI_nlt h2 (by omega)
      simp only [F_22, (hp z w c s).1, (hp z w c s).2.1, dp_1, decide_true, dg_1, a0, c0, hq_z, ec_ne, ec_lt, h1', not_false_eq_true, db_1, nI_1, h2', decide_false, db_0, opz, h1, if_false, h2, if_true]; rfl
    · have h2' : nI (t + 1) < nI e := nI_lt (by omega) (by omega)
      have a1 : aib 65 (hq z w c s) r (nI (t + 1)) = true := aib_nI (hp z w c s).2.2 (by omega) (by omega)
      have c1 : (nI (t + 1)).toNatClampNeg = t + 1 := nI_clamp (by omega)
      have v1 := hb.2 (t + 1) (by omega)
      by_cases h3 : B (t + 1) < 2
      · have h3' : nI (B (t + 1)) < 2 := nI_lt (b := 2) h3 (by omega)
        simp only [F_22, B_22_46, B_22_51, (hp z w c s).1, (hp z w c s).2.1, dp_1, decide_true, dg_1, a0, c0, a1, c1, hq_z, ec_ne, ec_lt, h1', not_false_eq_true, db_1, nI_1, h2', v1, h3', opz, h1, if_false, h2, h3, true_or, if_true]; rfl
      · have h3' : ¬ nI (B (t + 1)) < 2 := nI_nlt (b := 2) (by omega) (by omega)
        by_cases h4 : e < t + B (t + 1)
        · have h4' : ¬ nI (t + B (t + 1)) ≤ nI e := nI_ge h4 (by omega)
          simp only [F_22, B_22_46, B_22_51, (hp z w c s).1, (hp z w c s).2.1, dp_1, decide_true, dg_1, a0, c0, a1, c1, hq_z, ec_ne, ec_lt, ec_le, h1', not_false_eq_true, db_1, nI_1, h2', v1, h3', decide_false, db_0, nI_add, h4', opz, h1, if_false, h2, h3, h4, false_or, if_true]; rfl
        · have h4' : nI (t + B (t + 1)) ≤ nI e := nI_le (by omega) (by omega)
          simp only [F_22, B_22_46, B_22_51, (hp z w c s).1, (hp z w c s).2.1, dp_1, decide_true, dg_1, a0, c0, a1, c1, hq_z, ec_ne, ec_lt, ec_le, h1', not_false_eq_true, db_1, nI_1, h2', v1, h3', decide_false, db_0, nI_add, h4', opz, h1, if_false, h2, h3, h4, false_or]
theorem n21_l {e : Nat} (hp : pk a r N) (hb : cb z r M B) (hr : ∀ i, br (z r i)) (hM : M ≤ N) (hN : N < 10000) (he : e ≤ M) : ∀ (g t : Nat), e < t + g → B_21_10 f g a (nI e) (nI t) (hq z w c s) = some (.inl (some (.int (woI (woN B e g t)))), hq z w c s) ∨ e < t := by
  intro g
  induction g with
  | zero => intro t h; exact Or.inr (by omega)
  | succ g ih =>
    intro t h
    by_cases h0 : e ≤ t
    · have h0' : nI e ≤ nI t ∨ 2 ^ 31 ≤ t := by
        by_cases h9 : t < 2 ^ 31
        · exact Or.inl (nI_le h0 h9)
        · exact Or.inr (by omega)
      rcases h0' with h0' | h0'
      · refine Or.inl ?_
        simp only [B_21_10, B_21_45, ec_ge, h0', decide_true, db_1, woN, h0, true_or, if_true, woI]
      · exact Or.inr (by omega)
    · refine Or.inl ?_
      have h0' : ¬ nI e ≤ nI t := nI_ge (by omega) (by omega)
      have b0 := hb.1 t
      have s0 := sb_all (hr t) (hb.2 t (by omega)) b0
      have a0 : aib 65 (hq z w c s) r (nI t) = true := aib_nI (hp z w c s).2.2 (by omega) (by omega)
      have c0 : (nI t).toNatClampNeg = t := nI_clamp (by omega)
      by_cases h1 : B t = 0
      · simp only [B_21_10, B_21_45, ec_ge, ec_eq, h0', decide_true, decide_false, db_0, db_1, (hp z w c s).1, (hp z w c s).2.1, dp_1, dg_1, a0, c0, hq_z, s0.1.mpr h1, woN, h0, h1, or_true, if_true, woI]
      · have h1' : ¬ z r t = 0 := fun h => h1 (s0.1.mp h)
        have hz := opz_le (B := B) (t := t) (e := e) (by omega)
        have h2 := n22 (f := f) (w := w) (c := c) (s := s) hp hb hr hM hN (show t < e by omega) he
        by_cases h3 : opz B t e = 0
        · have h3' : ¬ (1 : Int32) ≤ nI 0 := by decide
          simp only [B_21_10, B_21_45, ec_ge, ec_eq, h0', decide_true, decide_false, db_0, db_1, (hp z w c s).1, (hp z w c s).2.1, dp_1, dg_1, a0, c0, hq_z, h1', woN, h0, h1, or_false, if_false, h2, di_1, h3', h3, if_true, woI]
        · have h3' : (1 : Int32) ≤ nI (opz B t e) := nI_le (a := 1) (by omega) (by omega)
          have h4 := (ih (t + opz B t e) (by omega)).resolve_right (by omega)
          simp only [B_21_10, B_21_45, ec_ge, ec_eq, h0', decide_true, decide_false, db_0, db_1, (hp z w c s).1, (hp z w c s).2.1, dp_1, dg_1, a0, c0, hq_z, h1', woN, h0, h1, or_false, if_false, h2, di_1, h3', h3, nI_add, h4]
theorem woN_f {B : Nat → Nat} {e : Nat} : ∀ (g g2 t : Nat), e < t + g → e < t + g2 → woN B e g t = woN B e g2 t ∨ e < t := by
  intro g
  induction g with
  | zero => intro g2 t h; exact fun _ => Or.inr (by omega)
  | succ g ih =>
    intro g2 t h h2
    by_cases h0 : e < t
    · exact Or.inr h0
    · refine Or.inl ?_
      obtain ⟨g2, rfl⟩ : ∃ g', g2 = g' + 1 := ⟨g2 - 1, by omega⟩
      by_cases h1 : e ≤ t ∨ B t = 0
      · simp only [woN, h1, if_true]
      · by_cases h3 : opz B t e = 0
        · simp only [woN, h1, if_false, h3, if_true]
        · have hz := opz_le (B := B) (t := t) (e := e) (by omega)
          simp only [woN, h1, if_false, h3]
          exact (ih g2 (t + opz B t e) (by omega) (by omega)).resolve_right (by omega)
def wo (B : Nat → Nat) : Option Nat := woN B (hl B) 100 20
theorem n21 (hp : pk a r N) (hb : cb z r M B) (hr : ∀ i, br (z r i)) (hM : M ≤ N) (hN : N < 10000) (h0 : 20 ≤ hl B) (he : hl B ≤ M) (hf : 100 < f) : F_21 f a (hq z w c s) = some (.inl (some (.int (woI (wo B)))), hq z w c s) := by
  have h1 := n8 (f := f) (w := w) (c := c) (s := s) hp hb hM hN (by omega)
  have h2 := hl_le B
  have h3 := (n21_l (f := f) (w := w) (c := c) (s := s) hp hb hr hM hN he f 20 (by omega)).resolve_right (by omega)
  rw [(woN_f (B := B) f 100 20 (by omega) (by omega)).resolve_right (by omega)] at h3
  simp only [F_21, (hp z w c s).1, decide_true, dg_1, h1, di_1, l_20, h3, wo]
theorem m107_l {e : Nat} (hb : mb z 61 M B) (hM : M ≤ 4100) (he : e ≤ M) : ∀ (g t : Nat), e < t + g → B_107_3 f g 52 (nI e) (nI t) (hq z w c s) = some (.inl (some (.int (woI (woN B e g t)))), hq z w c s) ∨ e < t := by
  intro g
  induction g with
  | zero => intro t h; exact Or.inr (by omega)
  | succ g ih =>
    intro t h
    by_cases h9 : e < t
    · exact Or.inr h9
    · refine Or.inl ?_
      by_cases h0 : e ≤ t
      · have h0' : nI e ≤ nI t := nI_le h0 (by omega)
        simp only [B_107_3, B_107_86, ec_ge, h0', decide_true, db_1, woN, h0, true_or, if_true, woI]
      · have h0' : ¬ nI e ≤ nI t := nI_ge (by omega) (by omega)
        have b0 := hb.1 t
        have b1 := hb.1 (t + 1)
        have v0 := hb.2 t (by omega)
        have a0 : aib 64 (hq z w c s) 61 (nI t) = true := aib_nI kq_61 (by omega) (by omega)
        have c0 : (nI t).toNatClampNeg = t := nI_clamp (by omega)
        have hz := opz_le (B := B) (t := t) (e := e) (by omega)
        by_cases h1 : B t = 0
        · simp only [B_107_3, B_107_86, ec_ge, ec_eq, h0', decide_true, decide_false, db_0, db_1, kq_52, pq_52_10, dp_1, dg_1, a0, c0, hq_z, v0, h1, nI_0, woN, h0, h1, or_true, if_true, woI]
        · have h1' : ¬ nI (B t) = 0 := nI_ne0 (by omega) (by omega)
          have h4 : 0 < opz B t e → B_107_3 f g 52 (nI e) (nI (t + opz B t e)) (hq z w c s) = some (.inl (some (.int (woI (woN B e g (t + opz B t e))))), hq z w c s) := fun h5 => (ih (t + opz B t e) (by omega)).resolve_right (by omega)
          by_cases h2 : B t = 1
          · have h2' : nI (B t) = 1 := by rw [h2]; rfl
            have ho : opz B t e = 1 := by simp only [opz, h2, if_true]
            rw [ho] at h4
            have h6 : nI (t + 1) ≤ nI e := nI_le (by omega) (by omega)
            simp only [B_107_3, B_107_50, B_107_70, ec_ge, ec_eq, ec_ne, ec_le, h0', decide_true, decide_false, db_0, db_1, kq_52, pq_52_10, dp_1, dg_1, a0, c0, hq_z, v0, h2', show ¬ (1 : Int32) = 0 by decide, not_true_eq_false, nI_1, h6, h4 (by omega), woN, h0, h1, or_false, if_false, ho, show ¬ (1 : Nat) = 0 by omega]
          · have h2' : ¬ nI (B t) = 1 := fun h => h2 ((nI_eq (b := 1) (by omega) (by omega)).mp h)
            by_cases h3 : e ≤ t + 1
            · have h3' : nI e ≤ nI (t + 1) := nI_le h3 (by omega)
              have ho : opz B t e = 0 := by simp only [opz, h2, if_false, h3, if_true]
              simp only [B_107_3, B_107_50, B_107_70, B_107_77, ec_ge, ec_eq, ec_ne, ec_le, h0', decide_true, decide_false, db_0, db_1, kq_52, pq_52_10, dp_1, dg_1, a0, c0, hq_z, v0, h1', h2', not_false_eq_true, nI_1, h3', woN, h0, h1, or_false, if_false, ho, if_true, woI]
            · have h3' : ¬ nI e ≤ nI (t + 1) := nI_ge (by omega) (by omega)
              have a1 : aib 64 (hq z w c s) 61 (nI (t + 1)) = true := aib_nI kq_61 (by omega) (by omega)
              have c1 : (nI (t + 1)).toNatClampNeg = t + 1 := nI_clamp (by omega)
              have v1 := hb.2 (t + 1) (by omega)
              by_cases h5 : B (t + 1) = 0
              · have h5' : nI (B (t + 1)) = 0 := by rw [h5]; rfl
                have ho : opz B t e = 0 := by simp only [opz, h2, if_false, h3, show B (t + 1) < 2 by omega, true_or, if_true]
                simp only [B_107_3, B_107_50, B_107_70, B_107_77, ec_ge, ec_eq, ec_ne, ec_le, h0', decide_true, decide_false, db_0, db_1, kq_52, pq_52_10, dp_1, dg_1, a0, c0, a1, c1, hq_z, v0, v1, h1', h2', h5', not_false_eq_true, nI_1, h3', woN, h0, h1, or_false, if_false, ho, if_true, woI]
              · have h5' : ¬ nI (B (t + 1)) = 0 := nI_ne0 (by omega) (by omega)
                by_cases h6 : B (t + 1) = 1
                · have h6' : nI (B (t + 1)) = 1 := by rw [h6]; rfl
                  have ho : opz B t e = 0 := by simp only [opz, h2, if_false, h3, show B (t + 1) < 2 by omega, true_or, if_true]
                  simp only [B_107_3, B_107_50, B_107_70, B_107_77, ec_ge, ec_eq, ec_ne, ec_le, h0', decide_true, decide_false, db_0, db_1, kq_52, pq_52_10, dp_1, dg_1, a0, c0, a1, c1, hq_z, v0, v1, h1', h2', show ¬ (1 : Int32) = 0 by decide, h6', not_false_eq_true, not_true_eq_false, nI_1, h3', woN, h0, h1, or_false, if_false, ho, if_true, woI]
                · have h6' : ¬ nI (B (t + 1)) = 1 := fun h => h6 ((nI_eq (b := 1) (by omega) (by omega)).mp h)
                  by_cases h7 : e < t + B (t + 1)
                  · have h7' : ¬ nI (t + B (t + 1)) ≤ nI e := nI_ge h7 (by omega)
                    have ho : opz B t e = 0 := by simp only [opz, h2, if_false, h3, h7, or_true, if_true]
                    simp only [B_107_3, B_107_50, B_107_70, B_107_77, ec_ge, ec_eq, ec_ne, ec_le, h0', decide_true, decide_false, db_0, db_1, kq_52, pq_52_10, dp_1, dg_1, a0, c0, a1, c1, hq_z, v0, v1, h1', h2', h5', h6', not_false_eq_true, nI_1, nI_add, h3', h7', woN, h0, h1, or_false, if_false, ho, if_true, woI]
                  · have h7' : nI (t + B (t + 1)) ≤ nI e := nI_le (by omega) (by omega)
                    have ho : opz B t e = B (t + 1) := by simp only [opz, h2, if_false, h3, show ¬ B (t + 1) < 2 by omega, h7, or_false]
                    rw [ho] at h4
                    simp only [B_107_3, B_107_50, B_107_70, B_107_77, ec_ge, ec_eq, ec_ne, ec_le, h0', decide_true, decide_false, db_0, db_1, kq_52, pq_52_10, dp_1, dg_1, a0, c0, a1, c1, hq_z, v0, v1, h1', h2', h5', h6', not_false_eq_true, nI_1, nI_add, h3', h7', woN, h0, h1, or_false, if_false, ho, h5, h4 (by omega)]
theorem m107 (hb : mb z 61 M B) (hM : M ≤ 4100) (h0 : 20 ≤ hl B) (he : hl B ≤ M) (hf : 100 < f) : F_107 f 52 (nI (hl B)) (hq z w c s) = some (.inl (some (.int (woI (wo B)))), hq z w c s) := by
  have h2 := hl_le B
  have h3 := (m107_l (f := f) (w := w) (c := c) (s := s) hb hM he f 20 (by omega)).resolve_right (by omega)
  rw [(woN_f (B := B) f 100 20 (by omega) (by omega)).resolve_right (by omega)] at h3
  simp only [F_107, l_20, h3, wo]
theorem n20 {n : Nat} (hp : pk a r N) (hc : z a 1 = nI n) (hb : cb z r n B) (hn : n ≤ N) (hN : N < 10000) (hf : 100 < f) : F_20 f a (hq z w c s) = some (.inl (some (.int (nI (hfN B n)))), hq z w c s) := by
  by_cases h1 : n < 20
  · have h1' : ¬ (20 : Int32) ≤ nI n := nI_ge (b := 20) h1 (by omega)
    simp only [F_20, (hp z w c s).1, decide_true, dg_1, hq_z, hc, ec_ge, h1', decide_false, db_0, hfN, h1, if_true]; rfl
  have h1' : (20 : Int32) ≤ nI n := nI_le (a := 20) (by omega) (by omega)
  have b0 := hb.1 0
  have v0 := and_le (hb.2 0 (by omega)) (m := 240) (by decide)
  have t0 := (sb_tab ⟨B 0, b0⟩).2.2.2.2.2
  have i0 : ev_in 0 N = true := ev_in_nI (i := 0) (by omega) (by omega)
  have c0 : Int32.toNatClampNeg 0 = 0 := rfl
  by_cases h2 : B 0 / 16 = 4
  case neg =>
    have h2' : ¬ nI (B 0) &&& 240 = 64 := fun h => h2 (t0.mp h)
    simp only [F_20, (hp z w c s).1, (hp z w c s).2.1, aib_k (hp z w c s).2.2, decide_true, dg_1, dp_1, hq_z, hc, ec_ge, ec_eq, h1', db_1, i0, c0, v0, h2', decide_false, db_0, hfN, h1, if_false, h2, not_false_eq_true, if_true]; rfl
  have h2' : nI (B 0) &&& 240 = 64 := t0.mpr h2
  have q8 := n8 (f := f) (w := w) (c := c) (s := s) hp hb hn hN (by omega)
  have hL := hl_le B
  by_cases h3 : hl B < 20
  · have h3' : nI (hl B) < 20 := nI_lt (b := 20) h3 (by omega)
    simp only [F_20, B_20_47, (hp z w c s).1, (hp z w c s).2.1, aib_k (hp z w c s).2.2, decide_true, dg_1, dp_1, hq_z, hc, ec_ge, ec_eq, ec_lt, h1', db_1, i0, c0, v0, h2', q8, di_1, h3', hfN, h1, if_false, h2, not_true_eq_false, h3, true_or, if_true]; rfl
  have h3' : ¬ nI (hl B) < 20 := nI_nlt (b := 20) (by omega) (by omega)
  by_cases h4 : n < hl B
  · have h4' : ¬ nI (hl B) ≤ nI n := nI_ge h4 (by omega)
    simp only [F_20, B_20_47, (hp z w c s).1, (hp z w c s).2.1, aib_k (hp z w c s).2.2, decide_true, dg_1, dp_1, hq_z, hc, ec_ge, ec_eq, ec_lt, ec_le, h1', db_1, i0, c0, v0, h2', q8, di_1, h3', h4', decide_false, db_0, hfN, h1, if_false, h2, not_true_eq_false, h4, or_true, if_true]; rfl
  have h4' : nI (hl B) ≤ nI n := nI_le (by omega) (by omega)
  have q9 := n9 (f := f) (w := w) (c := c) (s := s) hp hb hn hN (by omega)
  have l2 := n2_lt hb.1 2
  by_cases h5 : n2 B 2 < hl B
  · have h5' : nI (n2 B 2) < nI (hl B) := nI_lt h5 (by omega)
    simp only [F_20, B_20_67, (hp z w c s).1, (hp z w c s).2.1, aib_k (hp z w c s).2.2, decide_true, dg_1, dp_1, hq_z, hc, ec_ge, ec_eq, ec_lt, ec_le, h1', db_1, i0, c0, v0, h2', q8, di_1, h3', h4', decide_false, db_0, q9, h5', hfN, h1, if_false, h2, not_true_eq_false, h3, h4, or_false, h5, true_or, if_true]; rfl
  have h5' : ¬ nI (n2 B 2) < nI (hl B) := nI_nlt (by omega) (by omega)
  by_cases h6 : n < n2 B 2
  · have h6' : ¬ nI (n2 B 2) ≤ nI n := nI_ge h6 (by omega)
    simp only [F_20, B_20_67, (hp z w c s).1, (hp z w c s).2.1, aib_k (hp z w c s).2.2, decide_true, dg_1, dp_1, hq_z, hc, ec_ge, ec_eq, ec_lt, ec_le, h1', db_1, i0, c0, v0, h2', q8, di_1, h3', h4', decide_false, db_0, q9, h5', h6', hfN, h1, if_false, h2, not_true_eq_false, h3, h4, or_false, h6, or_true, if_true]; rfl
  have h6' : nI (n2 B 2) ≤ nI n := nI_le (by omega) (by omega)
  have q123 : F_123 f r 0 (nI (hl B)) 10 (hq z w c s) = some (.inl (some (.int (nI (ck (sN B 0 10 (hl B)))))), hq z w c s) := t123 (at_ := 0) (sk := 10) (N := N) (fun z => (hp z w c s).2.2) (by omega) (by omega) (by omega) hb.1 (fun i _ h => hb.2 i (by omega)) (by omega)
  have q119 : F_119 f r 10 (hq z w c s) = some (.inl (some (.int (nI (n2 B 10)))), hq z w c s) := n119 (t := 10) (hp z w c s).2.2 hb hn hN (by omega)
  have l10 := n2_lt hb.1 10
  have lck := ck_lt (sN B 0 10 (hl B))
  by_cases h7 : ck (sN B 0 10 (hl B)) = n2 B 10
  case neg =>
    have h7' : ¬ nI (ck (sN B 0 10 (hl B))) = nI (n2 B 10) := fun h => h7 ((nI_eq (by omega) (by omega)).mp h)
    simp only [F_20, (hp z w c s).1, (hp z w c s).2.1, aib_k (hp z w c s).2.2, decide_true, dg_1, dp_1, hq_z, hc, ec_ge, ec_eq, ec_lt, ec_le, h1', db_1, i0, c0, v0, h2', q8, di_1, h3', h4', decide_false, db_0, q9, h5', h6', q123, q119, h7', hfN, h1, if_false, h2, not_true_eq_false, h3, h4, or_false, h5, h6, h7, not_false_eq_true, if_true]; rfl
  have h7' : nI (ck (sN B 0 10 (hl B))) = nI (n2 B 10) := by rw [h7]
  have i12 : ev_in 12 N = true := ev_in_nI (i := 12) (by omega) (by omega)
  have c12 : Int32.toNatClampNeg 12 = 12 := rfl
  have v12 := hb.2 12 (by omega)
  have b12 := hb.1 12
  by_cases h8 : B 12 = 127
  · simp only [F_20, B_20_133, (hp z w c s).1, (hp z w c s).2.1, aib_k (hp z w c s).2.2, decide_true, dg_1, dp_1, hq_z, hc, ec_ge, ec_eq, ec_lt, ec_le, h1', db_1, i0, c0, v0, h2', q8, di_1, h3', h4', decide_false, db_0, q9, h5', h6', q123, q119, h7', i12, c12, v12, h8, show nI 127 = 127 from rfl, hfN, h1, if_false, h2, not_true_eq_false, h3, h4, or_false, h5, h6, h7, true_or, if_true]; rfl
  have h8' : ¬ nI (B 12) = 127 := fun h => h8 ((nI_eq (b := 127) (by omega) (by omega)).mp h)
  by_cases h9 : 223 < B 12
  · have h9' : (223 : Int32) < nI (B 12) := nI_lt (a := 223) h9 (by omega)
    simp only [F_20, B_20_133, (hp z w c s).1, (hp z w c s).2.1, aib_k (hp z w c s).2.2, decide_true, dg_1, dp_1, hq_z, hc, ec_ge, ec_eq, ec_lt, ec_le, ec_gt, h1', db_1, i0, c0, v0, h2', q8, di_1, h3', h4', decide_false, db_0, q9, h5', h6', q123, q119, h7', i12, c12, v12, h8', h9', hfN, h1, if_false, h2, not_true_eq_false, h3, h4, or_false, h5, h6, h7, h8, false_or, h9, true_or, if_true]; rfl
  have h9' : ¬ (223 : Int32) < nI (B 12) := nI_nlt (b := B 12) (a := 223) (by omega) (by omega)
  have q15 := n15 (f := f) (w := w) (c := c) (s := s) hp hb hn hN (by omega)
  have q10 := n10 (f := f) (w := w) (c := c) (s := s) hp hb hn hN (by omega) (by omega)
  by_cases hA : 65535 < n2 B 6 % 8192 * 8 + (n2 B 2 - hl B)
  · have hA' : ¬ nI (n2 B 6 % 8192 * 8 + (n2 B 2 - hl B)) ≤ 65535 := nI_ge (a := 65535) hA (by omega)
    simp only [F_20, B_20_133, (hp z w c s).1, (hp z w c s).2.1, aib_k (hp z w c s).2.2, decide_true, dg_1, dp_1, hq_z, hc, ec_ge, ec_eq, ec_lt, ec_le, ec_gt, h1', db_1, i0, c0, v0, h2', q8, di_1, h3', h4', decide_false, db_0, q9, h5', h6', q123, q119, h7', i12, c12, v12, h8', h9', q15, q10, nI_add, hA', hfN, h1, if_false, h2, not_true_eq_false, h3, h4, or_false, h5, h6, h7, h8, false_or, h9, hA, if_true]; rfl
  · have hA' : nI (n2 B 6 % 8192 * 8 + (n2 B 2 - hl B)) ≤ 65535 := nI_le (b := 65535) (by omega) (by omega)
    simp only [F_20, B_20_133, (hp z w c s).1, (hp z w c s).2.1, aib_k (hp z w c s).2.2, decide_true, dg_1, dp_1, hq_z, hc, ec_ge, ec_eq, ec_lt, ec_le, ec_gt, h1', db_1, i0, c0, v0, h2', q8, di_1, h3', h4', decide_false, db_0, q9, h5', h6', q123, q119, h7', i12, c12, v12, h8', h9', q15, q10, nI_add, hA', hfN, h1, if_false, h2, not_true_eq_false, h3, h4, or_false, h5, h6, h7, h8, false_or, h9, hA]; rfl
end Head54
