-- replies
section Reply64
theorem bu4_ne {B : Nat → Nat} {t v i : Nat} (h : i < t ∨ t + 3 < i) : bu4 B t v i = B i := by
  unfold bu4 b1; rw [if_neg (by omega), if_neg (by omega), if_neg (by omega), if_neg (by omega)]
theorem bu2_ne {B : Nat → Nat} {t v i : Nat} (h : i < t ∨ t + 1 < i) : bu2 B t v i = B i := by
  unfold bu2 b1; rw [if_neg (by omega), if_neg (by omega)]
def hdG (B : Nat → Nat) (v0 id src dst : Nat) : Nat → Nat := bu4 (bu4 (bu4 (bu4 (bu4 B 0 v0) 4 (id * 65536)) 8 1073807360) 12 src) 16 dst
theorem hdG_lt {B : Nat → Nat} (hB : ∀ i, B i < 256) (v0 id src dst : Nat) : ∀ i, hdG B v0 id src dst i < 256 := bu4_lt (bu4_lt (bu4_lt (bu4_lt (bu4_lt hB _) _) _) _) _
theorem bu4_in {B C : Nat → Nat} {t v i : Nat} (h1 : t ≤ i) (h2 : i ≤ t + 3) : bu4 B t v i = bu4 C t v i := by
  unfold bu4 b1
  by_cases g1 : i = t + 3
  · rw [if_pos g1, if_pos g1]
  · rw [if_neg g1, if_neg g1]
    by_cases g2 : i = t + 2
    · rw [if_pos g2, if_pos g2]
    · rw [if_neg g2, if_neg g2]
      by_cases g3 : i = t + 1
      · rw [if_pos g3, if_pos g3]
      · rw [if_neg g3, if_neg g3, if_pos (by omega), if_pos (by omega)]
theorem hdG_d {B C : Nat → Nat} {v0 id src dst i : Nat} (h : i < 20) : hdG B v0 id src dst i = hdG C v0 id src dst i := by
  unfold hdG
  by_cases g1 : 16 ≤ i
  · exact bu4_in g1 (by omega)
  · rw [bu4_ne (by omega), bu4_ne (t := 16) (by omega)]
    by_cases g2 : 12 ≤ i
    · exact bu4_in g2 (by omega)
    · rw [bu4_ne (by omega), bu4_ne (t := 12) (by omega)]
      by_cases g3 : 8 ≤ i
      · exact bu4_in g3 (by omega)
      · rw [bu4_ne (by omega), bu4_ne (t := 8) (by omega)]
        by_cases g4 : 4 ≤ i
        · exact bu4_in g4 (by omega)
        · rw [bu4_ne (by omega), bu4_ne (t := 4) (by omega)]
          exact bu4_in (by omega) (by omega)
theorem hdG_ge {B : Nat → Nat} {v0 id src dst i : Nat} (h : 20 ≤ i) : hdG B v0 id src dst i = B i := by
  unfold hdG
  rw [bu4_ne (by omega), bu4_ne (by omega), bu4_ne (by omega), bu4_ne (by omega), bu4_ne (by omega)]
def rpQ (v0 id src dst : Nat) (D : Nat → Nat) : Nat → Nat := fun i => if i < 20 then hdG (fun _ => 0) v0 id src dst i else D (i - 20)
theorem rpQ_lt {D : Nat → Nat} (hD : ∀ i, D i < 256) (v0 id src dst : Nat) : ∀ i, rpQ v0 id src dst D i < 256 := fun i => by
  unfold rpQ; split
  · exact hdG_lt (fun _ => by show 0 < 256; omega) _ _ _ _ _
  · exact hD _
def rpB (v0 id src dst len : Nat) (D : Nat → Nat) : Nat → Nat := bu2 (rpQ v0 id src dst D) 22 (ck (sN (rpQ v0 id src dst D) 20 2 len))
theorem rpB_lt {D : Nat → Nat} (hD : ∀ i, D i < 256) (v0 id src dst len : Nat) : ∀ i, rpB v0 id src dst len D i < 256 := bu2_lt (rpQ_lt hD _ _ _ _) _
def vL (len : Nat) : Nat := 1157627904 + (20 + len)
theorem rp_h {v0 id src dst len : Nat} {D : Nat → Nat} (h : v0 < 1157693440) (h1 : 1157627904 ≤ v0) : hl (rpB v0 id src dst len D) = 20 := by
  have : rpB v0 id src dst len D 0 = v0 / 16777216 % 256 := rfl
  unfold hl; rw [this]; omega
theorem rp_2 {id src dst len : Nat} {D : Nat → Nat} (h : len ≤ 4000) : n2 (rpB (vL len) id src dst len D) 2 = 20 + len := by
  have e1 : rpB (vL len) id src dst len D 2 = vL len / 256 % 256 := rfl
  have e2 : rpB (vL len) id src dst len D 3 = vL len % 256 := rfl
  show _ * 256 + rpB (vL len) id src dst len D 3 = _
  rw [e1, e2]; unfold vL; omega
theorem rp_6 {v0 id src dst len : Nat} {D : Nat → Nat} : n2 (rpB v0 id src dst len D) 6 = 0 := by
  have e1 : rpB v0 id src dst len D 6 = id * 65536 / 256 % 256 := rfl
  have e2 : rpB v0 id src dst len D 7 = id * 65536 % 256 := rfl
  show _ * 256 + rpB v0 id src dst len D 7 = _
  rw [e1, e2]; omega
theorem wo_20 {P : Nat → Nat} (h : hl P = 20) : wo P = none := by
  unfold wo; rw [h]; rfl
theorem prt {z : Nat → Nat → Int32} {w : Nat → Option Nat} {c s p : Nat} (hp : p < 8) : hp_p (hq z w c s) 1 p = some (2 + p) ∧ hp_k (hq z w c s) (2 + p) = some (3, 0) := by
  rcases (show p = 0 ∨ p = 1 ∨ p = 2 ∨ p = 3 ∨ p = 4 ∨ p = 5 ∨ p = 6 ∨ p = 7 by omega) with rfl | rfl | rfl | rfl | rfl | rfl | rfl | rfl
  · exact ⟨pq_1_0, kq_2⟩
  · exact ⟨pq_1_1, kq_3⟩
  · exact ⟨pq_1_2, kq_4⟩
  · exact ⟨pq_1_3, kq_5⟩
  · exact ⟨pq_1_4, kq_6⟩
  · exact ⟨pq_1_5, kq_7⟩
  · exact ⟨pq_1_6, kq_8⟩
  · exact ⟨pq_1_7, kq_9⟩
-- what the replies look at
def cE (S : St9) (z : Nat → Nat → Int32) : Prop := (∀ i, i < 8 → z (2 + i) 0 = S 0 i ∧ z (2 + i) 1 = S 1 i ∧ z (2 + i) 2 = S 2 i) ∧ z 0 8 = S 3 3 ∧ z 0 9 = S 3 4 ∧ OB S z (cn S 2) ∧ (∀ i, br (z 20 i)) ∧ ∀ i, br (z 27 i)
def mE (S : St9) (z : Nat → Nat → Int32) : Prop := (∀ i, i < 8 → z 53 i = S 0 i ∧ z 54 i = S 1 i ∧ z 55 i = if S 2 i = 0 then 1 else 0) ∧ z 52 20 = S 3 3 ∧ z 52 21 = S 3 4 ∧ OM S z
def wE (S : St9) : Prop := (∀ i, i < 8 → (∃ m, 100 ≤ m ∧ m ≤ 1500 ∧ S 1 i = nI m) ∧ dz (S 2 i)) ∧ wfn S 3 6 ∧ wfn S 4 3000 ∧ ow S
def rpS (S : St9) : St9 := va_up S 3 (upd (S 3) 4 (nI (cn S 4 + 1)))
theorem rpS_k {S : St9} {k : Nat} (h : k ≠ 3) : rpS S k = S k := va_up_ne _ _ h
theorem rpS_3 {S : St9} {k : Nat} (h : k ≠ 4) : rpS S 3 k = S 3 k := by unfold rpS; rw [va_up_self, pk_un h]
theorem rpS_4 {S : St9} : rpS S 3 4 = nI (cn S 4 + 1) := by unfold rpS; rw [va_up_self, pk_us]
theorem rpS_c {S : St9} {k : Nat} (h : k ≠ 4) : cn (rpS S) k = cn S k := by unfold cn; rw [rpS_3 h]
theorem rpS_ow {S : St9} (h : ow S) : ow (rpS S) := by
  unfold ow wfn at *
  rw [rpS_c (by omega), rpS_c (by omega), rpS_3 (by omega), rpS_3 (by omega), rpS_k (by omega), rpS_k (by omega)]
  exact h
theorem OB_S {S T : St9} {z z' : Nat → Nat → Int32} {b : Nat} (h : OB S z b) (h2 : T 3 2 = S 3 2) (h11 : T 3 11 = S 3 11) (hk : ∀ k, 9 ≤ k → k ≤ 13 → T k = S k) (hz : ∀ a, 21 ≤ a → a ≤ 26 → z' a = z a) : OB T z' b := by
  obtain ⟨a1, a2, a3, a4, a5, a6⟩ := h
  have c2 : cn T 2 = cn S 2 := cn_of h2
  have c11 : cn T 11 = cn S 11 := cn_of h11
  unfold OB
  rw [hz 21 (by omega) (by omega), hz 22 (by omega) (by omega), hz 23 (by omega) (by omega), hz 24 (by omega) (by omega), hz 25 (by omega) (by omega), hz 26 (by omega) (by omega), h2, h11, c2, c11, hk 9 (by omega) (by omega), hk 10 (by omega) (by omega), hk 11 (by omega) (by omega), hk 12 (by omega) (by omega), hk 13 (by omega) (by omega)]
  exact ⟨a1, a2, a3, a4, a5, a6⟩
theorem OM_S {S T : St9} {z z' : Nat → Nat → Int32} (h : OM S z) (h2 : T 3 2 = S 3 2) (h11 : T 3 11 = S 3 11) (hk : ∀ k, 9 ≤ k → k ≤ 13 → T k = S k) (hz : ∀ a, 63 ≤ a → a ≤ 67 → z' a = z a) (h52 : z' 52 19 = z 52 19) : OM T z' := by
  have c2 : cn T 2 = cn S 2 := cn_of h2
  have c11 : cn T 11 = cn S 11 := cn_of h11
  unfold OM at *
  rw [hz 63 (by omega) (by omega), hz 64 (by omega) (by omega), hz 65 (by omega) (by omega), hz 66 (by omega) (by omega), hz 67 (by omega) (by omega), h52, h2, c2, c11, hk 9 (by omega) (by omega), hk 10 (by omega) (by omega), hk 11 (by omega) (by omega), hk 12 (by omega) (by omega), hk 13 (by omega) (by omega)]
  exact h
variable {S : St9} {z : Nat → Nat → Int32} {w : Nat → Option Nat} {f c s p len src dst m : Nat} {D : Nat → Nat}
theorem n71 (hE : cE S z) (hW : wE S) (hp : p < 8) (hl4 : len ≤ 4000) (h22 : 4 ≤ len) (hm : S 1 p = nI m) (hm1 : 100 ≤ m) (hm2 : m ≤ 1500) (hs : src < 2 ^ 32) (hd : dst < 2 ^ 32) (hD : ∀ i, D i < 256) (hb : ∀ i, i < len → bz z 20 (20 + i) = D i) (hc : capS (cn S 2) (cn S 11) 20 ((m - 20) / 8 * 8) len) (hf : 20000 < f) : ∃ z', F_71 f 0 (nI len) (nI p) (nI src) (nI dst) (hq z w c s) = some (.inl none, hq z' w c s) ∧ cE (sdS (rpS S) (rpB (vL len) (cn S 4) src dst len D) len m (nI p) 0) z' ∧ (∀ a, a ≠ 0 → a < 20 ∨ 27 < a → z' a = z a) ∧ ∀ k, k ≠ 9 → z' 0 k = z 0 k := by
  obtain ⟨E1, E2, E3, E4, E5, E6⟩ := hE
  obtain ⟨W1, ⟨W2, W3⟩, ⟨W4, W5⟩, W6⟩ := hW
  have id32 : cn S 4 * 65536 < 2 ^ 32 := by omega
  have h9 : z 0 9 = nI (cn S 4) := E3.trans W4
  have k20 : ∀ z, hp_k (hq z w c s) 20 = some (65, 4020) := fun z => kq_20
  obtain ⟨z1, e1⟩ : ∃ x, x = va_up z 20 (w4 (z 20) 0 (nI (vL len))) := ⟨_, rfl⟩
  obtain ⟨z2, e2⟩ : ∃ x, x = va_up z1 20 (w4 (z1 20) 4 (nI (cn S 4 * 65536))) := ⟨_, rfl⟩
  obtain ⟨z3, e3⟩ : ∃ x, x = va_up z2 20 (w4 (z2 20) 8 (nI 1073807360)) := ⟨_, rfl⟩
  obtain ⟨z4, e4⟩ : ∃ x, x = va_up z3 20 (w4 (z3 20) 12 (nI src)) := ⟨_, rfl⟩
  obtain ⟨z5, e5⟩ : ∃ x, x = va_up z4 20 (w4 (z4 20) 16 (nI dst)) := ⟨_, rfl⟩
  have n1 : ∀ a, a ≠ 20 → z1 a = z a := fun a ha => by rw [e1, va_up_ne _ _ ha]
  have n5' : ∀ a, a ≠ 20 → z5 a = z a := fun a ha => by rw [e5, va_up_ne _ _ ha, e4, va_up_ne _ _ ha, e3, va_up_ne _ _ ha, e2, va_up_ne _ _ ha, n1 a ha]
  have b5 : bz z5 20 = hdG (bz z 20) (vL len) (cn S 4) src dst := by
    rw [e5, bz_w4 hd, e4, bz_w4 hs, e3, bz_w4 (by omega), e2, bz_w4 id32, e1, bz_w4 (by unfold vL; omega)]; rfl
  have q1 : F_122 f 20 0 (nI (vL len)) (hq z w c s) = some (.inl none, hq z1 w c s) := by rw [e1]; exact t122 (t := 0) (N := 4020) k20 (by omega) (by omega)
  have q2 : F_122 f 20 4 (nI (cn S 4 * 65536)) (hq z1 w c s) = some (.inl none, hq z2 w c s) := by rw [e2]; exact t122 (t := 4) (N := 4020) k20 (by omega) (by omega)
  have q3 : F_122 f 20 8 1073807360 (hq z2 w c s) = some (.inl none, hq z3 w c s) := by rw [e3]; exact t122 (t := 8) (N := 4020) k20 (by omega) (by omega)
  have q4 : F_122 f 20 12 (nI src) (hq z3 w c s) = some (.inl none, hq z4 w c s) := by rw [e4]; exact t122 (t := 12) (N := 4020) k20 (by omega) (by omega)
  have q5 : F_122 f 20 16 (nI dst) (hq z4 w c s) = some (.inl none, hq z5 w c s) := by rw [e5]; exact t122 (t := 16) (N := 4020) k20 (by omega) (by omega)
  have hQ : ∀ i, i < 20 + len → bz z5 20 i = rpQ (vL len) (cn S 4) src dst D i := by
    intro i hi
    rw [b5]; unfold rpQ
    by_cases h : i < 20
    · rw [if_pos h]; exact hdG_d h
    · rw [if_neg h, hdG_ge (by omega)]
      have := hb (i - 20) (by omega)
      rw [show 20 + (i - 20) = i by omega] at this; exact this
  have hsum : sN (bz z5 20) 20 2 len = sN (rpQ (vL len) (cn S 4) src dst D) 20 2 len := sN_eq len (fun i hi => hQ (20 + i) (by omega))
  obtain ⟨K, eK⟩ : ∃ x, x = ck (sN (rpQ (vL len) (cn S 4) src dst D) 20 2 len) := ⟨_, rfl⟩
  have hK : K < 65536 := by rw [eK]; exact ck_lt _
  have q6 : F_123 f 20 20 (nI len) 22 (hq z5 w c s) = some (.inl (some (.int (nI K))), hq z5 w c s) := by
    rw [eK, ← hsum]; exact t123 (N := 4020) (at_ := 20) (sk := 2) k20 (by omega) (by omega) (by omega) (bz_lt z5 20) (fun i _ _ => bz_eq z5 20 i) (by omega)
  obtain ⟨z6, e6⟩ : ∃ x, x = va_up z5 20 (w2 (z5 20) 22 (nI K)) := ⟨_, rfl⟩
  have q7 : F_121 f 20 22 (nI K) (hq z5 w c s) = some (.inl none, hq z6 w c s) := by rw [e6]; exact t121 (t := 22) (N := 4020) k20 (by omega) (by omega)
  have n6' : ∀ a, a ≠ 20 → z6 a = z a := fun a ha => by rw [e6, va_up_ne _ _ ha, n5' a ha]
  have h96 : z6 0 9 = nI (cn S 4) := by rw [n6' 0 (by omega)]; exact h9
  obtain ⟨z7, e7⟩ : ∃ x, x = va_up z6 0 (upd (z6 0) 9 (nI (cn S 4 + 1))) := ⟨_, rfl⟩
  have n7 : ∀ a, a ≠ 0 → a ≠ 20 → z7 a = z a := fun a h0 ha => by rw [e7, va_up_ne _ _ h0, n6' a ha]
  have m7 : ∀ k, k ≠ 9 → z7 0 k = z 0 k := fun k hk => by rw [e7, va_up_self, pk_un hk, n6' 0 (by omega)]
  have br6 : ∀ i, br (z6 20 i) := by
    rw [e6, va_up_self]; apply br_w2; rw [e5, va_up_self]; apply br_w4; rw [e4, va_up_self]; apply br_w4; rw [e3, va_up_self]; apply br_w4; rw [e2, va_up_self]; apply br_w4; rw [e1, va_up_self]; exact br_w4 E5
  have hP : cb z7 20 (20 + len) (rpB (vL len) (cn S 4) src dst len D) := by
    refine ⟨rpB_lt hD _ _ _ _ _, fun i hi => ?_⟩
    rw [bz_eq]
    congr 1
    have : bz z7 20 = bu2 (bz z5 20) 22 K := by
      have : bz z7 20 = bz z6 20 := by unfold bz; rw [e7, va_up_ne _ _ (by decide)]
      rw [this, e6]; exact bz_w2 (by omega)
    rw [this]; unfold rpB; rw [← eK]
    unfold bu2 b1; rw [hQ i hi]
  have hl20 : hl (rpB (vL len) (cn S 4) src dst len D) = 20 := rp_h (by unfold vL; omega) (by unfold vL; omega)
  have O7 : OB (rpS S) z7 (cn (rpS S) 2) := by
    rw [rpS_c (by omega)]
    exact OB_S E4 (rpS_3 (by omega)) (rpS_3 (by omega)) (fun k _ _ => rpS_k (by omega)) (fun a _ _ => n7 a (by omega) (by omega))
  obtain ⟨z8, g1, g2, g3, g4⟩ := nS4 (f := f) (w := w) (c := c) (s := s) (way := nI p) (next := 0) (S := rpS S) (m := m) (data := len) pk_r hP (by rw [e7, va_up_ne _ _ (by decide)]; exact br6) (by rw [n7 27 (by omega) (by omega)]; exact E6) (by omega) (by omega) (by omega) (by omega) (by rw [rp_2 hl4, hl20]) (by omega) hm1 hm2 O7 (rpS_ow W6) (by rw [hl20, rpS_c (by omega), rpS_c (by omega)]; exact hc) (wo_20 hl20) (by rw [rp_6]; omega) (by omega)
  have ip : ev_in (nI p) 8 = true := ev_in_nI hp (by omega)
  have cp : (nI p).toNatClampNeg = p := nI_clamp (by omega)
  have g2p : z7 (2 + p) 1 = nI m := by rw [n7 (2 + p) (by omega) (by omega), (E1 p hp).2.1]; exact hm
  have v1 : (1157627904 : Int32) ||| ((20 : Int32) + nI len) = nI (vL len) := by
    rw [show (20 : Int32) = nI 20 from rfl, nI_add, show (1157627904 : Int32) = nI 1157627904 from rfl, nI_orN (by omega) (by omega)]
    exact congrArg nI (or_N (a := 69) (k := 24) (by omega))
  have v2 : nI (cn S 4) <<< ((16 : Int32) &&& 31) = nI (cn S 4 * 65536) := by rw [c16]; exact (nI_shl _).2.1
  have h91 : z1 0 9 = nI (cn S 4) := by rw [n1 0 (by omega)]; exact h9
  refine ⟨z8, ?_, ?_, fun a h0 ha => by rw [g3 a (by omega), n7 a h0 (by omega)], fun k hk => by rw [g3 0 (by omega), m7 k hk]⟩
  · simp only [F_71, v1, q1, h91, v2, q2, q3, q4, q5, q6, q7, h96, nI_1, ← e7, ip, cp, (prt hp).1, (prt hp).2, g2p, g1, dg_1, db_1, db_0, dl_1, dp_1, dv_1, dv_x, di_1, di_x, dw_1, ec_eq, ec_ne, ec_lt, ec_ge, ec_gt, ec_le, hq_z, hq_wz, hq_wc, hq_thr, hq_p29, hq_pw, eq_self, decide_true, decide_false, not_true_eq_false, not_false_eq_true, kq_0, kq_1, kq_2, kq_3, kq_4, kq_5, kq_6, kq_7, kq_8, kq_9, kq_10, kq_11, kq_12, kq_13, kq_14, kq_15, kq_16, kq_17, kq_18, kq_19, kq_20, kq_21, kq_22, kq_23, kq_24, kq_25, kq_26, kq_27, kq_28, kq_29, kq_30, kq_31, kq_32, kq_33, kq_34, kq_35, kq_36, kq_37, kq_38, kq_39, kq_40, kq_41, kq_42, kq_43, kq_44, kq_45, kq_46, kq_47, kq_48, kq_49, kq_50, kq_51, kq_52, kq_53, kq_54, kq_55, kq_56, kq_57, kq_58, kq_59, kq_60, kq_61, kq_62, kq_63, kq_64, kq_65, kq_66, kq_67, kq_68, kq_69, kq_70, kq_71, kq_72, kq_73, kq_74, kq_75, kq_76, kq_77, kq_78, kq_79, kq_80, kq_81, pq_0_0, pq_0_1, pq_0_2, pq_0_3, pq_0_4, pq_0_5, pq_0_6, pq_0_7, pq_1_0, pq_1_1, pq_1_2, pq_1_3, pq_1_4, pq_1_5, pq_1_6, pq_1_7, pq_10_0, pq_10_1, pq_10_2, pq_10_3, pq_15_0, pq_17_0, pq_19_0, pq_21_0, pq_21_1, pq_21_2, pq_21_3, pq_21_4, pq_21_5, pq_28_0, pq_30_0, pq_30_1, pq_30_2, pq_31_0, pq_35_0, pq_35_1, pq_35_2, pq_36_0, pq_40_0, pq_40_1, pq_40_2, pq_41_0, pq_45_0, pq_45_1, pq_45_2, pq_46_0, pq_50_0, pq_52_0, pq_52_1, pq_52_2, pq_52_3, pq_52_4, pq_52_5, pq_52_6, pq_52_8, pq_52_10, pq_52_11, pq_52_14, pq_52_15, pq_52_16, pq_52_17, pq_52_18, pq_52_27, pq_52_29, pq_52_30, pq_52_31, pq_52_32, pq_52_33, pq_52_34, pq_52_35, pq_52_36, pq_52_37, pq_52_38, pq_52_39, pq_52_40, pq_52_41, aq_1, aq_11, aq_12, aq_13, aq_14, aq_16, aq_18, aq_20, aq_22, aq_23, aq_24, aq_25, aq_26, aq_27, aq_29, aq_32, aq_33, aq_34, aq_37, aq_38, aq_39, aq_42, aq_43, aq_44, aq_47, aq_48, aq_49, aq_51, aq_53, aq_54, aq_55, aq_56, aq_57, aq_58, aq_59, aq_60, aq_61, aq_62, aq_63, aq_64, aq_65, aq_66, aq_67, aq_68, aq_69, aq_70, aq_71, aq_72, aq_73, aq_74, aq_75, aq_76, aq_77, aq_78, aq_79, aq_80, aq_81]
  · obtain ⟨-, o1, o2, o3, o4⟩ := sdS_all (S := rpS S) (P := rpB (vL len) (cn S 4) src dst len D) (data := len) (m := m) (way := nI p) (next := 0) (by rw [hl20, rpS_c (by omega), rpS_c (by omega)]; exact hc) (rpS_ow W6) (by omega) hm1 hm2
    refine ⟨fun i hi => ?_, ?_, ?_, g2, ?_, g4⟩
    · rw [g3 (2 + i) (by omega), n7 (2 + i) (by omega) (by omega), o3 0 (by omega) (by omega), o3 1 (by omega) (by omega), o3 2 (by omega) (by omega), rpS_k (by omega), rpS_k (by omega), rpS_k (by omega)]; exact E1 i hi
    · rw [g3 0 (by omega), m7 8 (by omega), o4 3 (by omega) (by omega), rpS_3 (by omega)]; exact E2
    · rw [g3 0 (by omega), e7, va_up_self, pk_us, o4 4 (by omega) (by omega), rpS_4]
    · rw [g3 20 (by omega), e7, va_up_ne _ _ (by decide)]; exact br6
end Reply64
