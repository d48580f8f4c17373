-- sum, as a call
section Sum70
variable {n : Nat} {x : Int32} {h : hp_T}
def sUm (S : St9) (K : Nat) : St9 := va_up S 8 (upd (upd (S 8) 10 (nI (K / 256 % 256))) 11 (nI (K % 256)))
theorem op_sum (hj : Jn n h) (hn : n < 512) : pu_v 54 92 cd_sum [.int x] h (Jn (n + 1)) := by
  obtain ⟨-, S, z, w, c, s, rfl, hwf, hrc, hrm, hc, hs⟩ := hj
  have hJ := Jn_same hn hwf hrc hrm hc hs
  have e1 : z 15 1 = S 3 1 := hrc.2.1.2.1
  have e2 : z 52 9 = S 3 1 := hrm.2.1.2.1
  obtain ⟨e3, e4⟩ := hwf.1.2.1
  by_cases h1 : x < 5
  · exact pu_vx (q := 1) (r := 1) (sF_54 (f := 0) (t54_a h1)) rfl (sF_92 (f := 0) (t92_a h1)) (z42_s 1) (hJ 1).2
  by_cases h2 : (15 : Int32) < x
  · exact pu_vx (q := 1) (r := 1) (sF_54 (f := 0) (t54_b h1 h2)) rfl (sF_92 (f := 0) (t92_b h1 h2)) (z42_s 1) (hJ 1).2
  have hx : ∃ k, 5 ≤ k ∧ k ≤ 15 ∧ x = nI k := by
    have g0 : ¬ x < 0 := by
      rw [Int32.lt_iff_toInt_lt] at h1 ⊢
      rw [show (5 : Int32).toInt = 5 from rfl] at h1
      rw [show (0 : Int32).toInt = 0 from rfl]
      omega
    obtain ⟨k, hk, rfl⟩ := nI_of g0
    refine ⟨k, ?_, ?_, rfl⟩
    · rw [show (5 : Int32) = nI 5 from rfl, nI_ltI hk (by omega)] at h1; omega
    · rw [show (15 : Int32) = nI 15 from rfl, nI_ltI (by omega) hk] at h2; omega
  obtain ⟨k, k1, k2, rfl⟩ := hx
  have g3 : nI k * 4 = nI (4 * k) := by rw [show (4 : Int32) = nI 4 from rfl, nI_mulN, Nat.mul_comm]
  have g4 : (4 : Int32) * nI k = nI (4 * k) := by rw [show (4 : Int32) = nI 4 from rfl, nI_mulN]
  by_cases h3 : 4 * k ≤ cn S 1
  case neg =>
    have h3' : ¬ nI (4 * k) ≤ nI (cn S 1) := nI_ge (by omega) (by omega)
    exact pu_vx (q := 1) (r := 1) (sF_54 (f := 0) (t54_c h1 h2 (by rw [g3, e1, e3]; exact h3'))) rfl (sF_92 (f := 0) (t92_c h1 h2 (by rw [g4, e2, e3]; exact h3'))) (z42_s 1) (hJ 1).2
  have f1 := t54_r (f := 1000) (z := z) (w := w) (c := c) (s := s) k1 k2 (e1.trans e3) h3 e4 (by omega)
  have hK := ck_lt (sN (bz z 16) 0 10 (4 * k))
  generalize hKK : ck (sN (bz z 16) 0 10 (4 * k)) = K at f1 hK
  generalize hz1 : va_up z 16 (w2 (z 16) 10 (nI K)) = z1 at f1
  have n1 : ∀ a, a ≠ 16 → z1 a = z a := fun a ha => by rw [← hz1, va_up_ne _ _ ha]
  have b1' : bz z1 16 = bu2 (bz z 16) 10 K := by rw [← hz1]; exact bz_w2 (by omega)
  have hS8 : ∀ i, i < cn S 1 → S 8 i = nI (bz z 16 i) := fun i hi => by rw [← bz_eq]; exact (hrc.2.2.2.1 i hi).symm
  have hb : mb z1 60 (cn S 1) (bz z 16) := ⟨bz_lt z 16, fun i hi => by rw [n1 60 (by omega), hrm.2.2.2.1 i hi]; exact hS8 i hi⟩
  have f2 := t92_r (f := 1000) (z := z1) (w := w) (c := c) (s := s) k1 k2 (by rw [n1 52 (by omega)]; exact e2.trans e3) h3 e4 hb (by omega)
  rw [hKK] at f2
  generalize hz2 : u2z (z42 z1 0) 60 10 K = z2 at f2
  have n2' : ∀ a, a ≠ 52 → a ≠ 60 → z2 a = z1 a := fun a h52 h60 => by rw [← hz2, u2z_ne h60, z42_n 0 h52]
  have m2 : ∀ k, k ≠ 42 → z2 52 k = z 52 k := fun k hk => by rw [← hz2, u2z_ne (by omega), z42_52 0 hk, n1 52 (by omega)]
  have sU8 : sUm S K 8 = upd (upd (S 8) 10 (nI (K / 256 % 256))) 11 (nI (K % 256)) := va_up_self _ _ _
  have sUk : ∀ k, k ≠ 8 → sUm S K k = S k := fun k hk => va_up_ne _ _ hk
  have hcn : cn (sUm S K) 1 = cn S 1 := by unfold cn; rw [sUk 3 (by omega)]
  have hbu : ∀ i, i < cn S 1 → sUm S K 8 i = nI (bu2 (bz z 16) 10 K i) := fun i hi => by
    rw [sU8, upd_if, upd_if]
    unfold bu2 b1
    by_cases h11 : i = 10 + 1
    · rw [if_pos h11, if_pos h11]
    · rw [if_neg h11, if_neg h11]
      by_cases h10 : i = 10
      · rw [if_pos h10, if_pos h10]
      · rw [if_neg h10, if_neg h10]; exact hS8 i hi
  refine pu_v1 (sF_54 f1) (sF_92 f2) ?_ ⟨by omega, sUm S K, z2, w, c, s, rfl, wf_tape hwf (fun k _ h8 => sUk k h8) (fun j _ => by rw [sUk 3 (by omega)]) ?_, rc_tape hrc (fun k _ h8 => sUk k h8) (fun j _ => by rw [sUk 3 (by omega)]) (fun a h5 h6 h7 => by rw [n2' a (by omega) (by omega), n1 a h7]) ?_ (fun j hj => ?_) (fun j => ?_), rmd_tape hrm (fun k _ h8 => sUk k h8) (fun j _ => by rw [sUk 3 (by omega)]) (fun a h5 h6 => by rw [n2' a (by omega) h6, n1 a (by omega)]) (fun k h9 h42 => m2 k h42) ?_ (fun j hj => ?_), by omega, by omega⟩
  · rw [← hz2, u2z_ne (by omega)]; exact z42_s 0
  · unfold wfn; rw [hcn, sUk 3 (by omega)]; exact ⟨e3, e4⟩
  · rw [n2' 15 (by omega) (by omega), n1 15 (by omega), sUk 3 (by omega)]; exact e1
  · rw [hcn] at hj
    rw [n2' 16 (by omega) (by omega), bz_eq, b1']; exact (hbu j hj).symm
  · rw [n2' 16 (by omega) (by omega), ← hz1, va_up_self]; exact br_w2 (hrc.2.2.2.2.2.2.2.1 16 (by decide)) j
  · rw [m2 9 (by omega), sUk 3 (by omega)]; exact e2
  · rw [hcn] at hj
    rw [hbu j hj, ← hz2]
    have hbm : mb (z42 z1 0) 60 (cn S 1) (bz z 16) := ⟨hb.1, fun i hi => by rw [z42_n 0 (by decide)]; exact hb.2 i hi⟩
    exact (mb_u2 (M2 := cn S 1) (v := K) hbm (fun i hi _ _ => hi)).2 j hj
end Sum70
