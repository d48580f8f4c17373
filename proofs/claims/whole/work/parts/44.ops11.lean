section Ops11
variable {z z2 : Nat → Nat → Int32} {w : Nat → Option Nat} {c s n f : Nat} {x l k nx : Int32} {S S' : St9} {h : hp_T}
def sW (S : St9) (q : Int32) (p : Nat) (v1 v2 v3 v4 : Int32) : St9 := fun j => if j = 3 then upd (S 3) 0 q else if j = 4 then upd (S 4) p v1 else if j = 5 then upd (S 5) p v2 else if j = 6 then upd (S 6) p v3 else if j = 7 then upd (S 7) p v4 else S j
theorem upd_rel2 {a b : Nat → Int32} {p i : Nat} {v : Int32} (hi : i ≠ p → a i = b i) : upd a p v i = upd b p v i := by
  by_cases e : i = p
  · subst e; rw [pk_us, pk_us]
  · rw [pk_un e, pk_un e]; exact hi e
theorem upd_all2 {b : Nat → Int32} {p i : Nat} {v : Int32} {P : Int32 → Prop} (hv : P v) (hi : i ≠ p → P (b i)) : P (upd b p v i) := by
  by_cases e : i = p
  · subst e; rw [pk_us]; exact hv
  · rw [pk_un e]; exact hi e
theorem Jn_put {p t : Nat} {v1 v2 v3 v4 : Int32} (hn : n < 512) (hwf : wf n S) (hrc : rc S z w) (hrm : rmd S z) (hc : c ≤ 82 + n) (hs : s ≤ 120000 + 6 * n)
    (ht : t ≤ 400) (hp : ∀ i, i < t → i ≠ p → i < cn S 0) (hv2 : ∃ m, m ≤ 32 ∧ v2 = nI m) (hv3 : ∃ m, m < 8 ∧ v3 = nI m)
    (a0 : ∀ a, a < 52 → (a < 10 ∨ 14 < a) → z2 a = z a) (a1 : z2 10 4 = nI t) (a2 : z2 11 = upd (z 11) p v1) (a3 : z2 12 = upd (z 12) p v2) (a4 : z2 13 = upd (z 13) p v3) (a5 : z2 14 = upd (z 14) p v4)
    (b0 : ∀ a, 52 < a → (a < 56 ∨ 59 < a) → z2 a = z a) (b6 : ∀ j, j ≠ 7 → j ≠ 42 → z2 52 j = z 52 j) (b1 : z2 52 7 = nI t) (b2 : z2 56 = upd (z 56) p v1) (b3 : z2 57 = upd (z 57) p v2) (b4 : z2 58 = upd (z 58) p v3) (b5 : z2 59 = upd (z 59) p v4) : Jn (n + 1) (hq z2 w c s) := by
  have s3 : ∀ j, j ≠ 0 → sW S (nI t) p v1 v2 v3 v4 3 j = S 3 j := fun j hj => by unfold sW; rw [if_pos rfl, pk_un hj]
  have s0 : sW S (nI t) p v1 v2 v3 v4 3 0 = nI t := by unfold sW; rw [if_pos rfl, pk_us]
  have s4 : sW S (nI t) p v1 v2 v3 v4 4 = upd (S 4) p v1 := rfl
  have s5 : sW S (nI t) p v1 v2 v3 v4 5 = upd (S 5) p v2 := rfl
  have s6 : sW S (nI t) p v1 v2 v3 v4 6 = upd (S 6) p v3 := rfl
  have s7 : sW S (nI t) p v1 v2 v3 v4 7 = upd (S 7) p v4 := rfl
  have sn : ∀ j, j < 3 ∨ 8 ≤ j → sW S (nI t) p v1 v2 v3 v4 j = S j := fun j hj => by unfold sW; rw [if_neg (by omega), if_neg (by omega), if_neg (by omega), if_neg (by omega), if_neg (by omega)]
  have hcn : cn (sW S (nI t) p v1 v2 v3 v4) 0 = t := by unfold cn; rw [s0, nI_clamp (by omega)]
  generalize sW S (nI t) p v1 v2 v3 v4 = S' at s3 s0 s4 s5 s6 s7 sn hcn
  refine ⟨by omega, S', z2, w, c, s, rfl, wf_routes hwf sn s3 ⟨by rw [s0, hcn], by rw [hcn]; exact ht⟩ (fun i hi => ?_), rc_routes hrc sn s3 a0 (by rw [a1, s0]) (fun i hi => ?_), rmd_routes hrm sn s3 b0 b6 (by rw [b1, s0]) (fun i hi => ?_), by omega, by omega⟩
  · rw [hcn] at hi
    rw [s5, s6]
    exact ⟨upd_all2 (P := fun v => ∃ m, m ≤ 32 ∧ v = nI m) hv2 (fun e => (hwf.2.2.1 i (hp i hi e)).1), upd_all2 (P := fun v => ∃ m, m < 8 ∧ v = nI m) hv3 (fun e => (hwf.2.2.1 i (hp i hi e)).2)⟩
  · rw [hcn] at hi
    rw [a2, a3, a4, a5, s4, s5, s6, s7]
    exact ⟨upd_rel2 (fun e => (hrc.2.2.1 i (hp i hi e)).1), upd_rel2 (fun e => (hrc.2.2.1 i (hp i hi e)).2.1), upd_rel2 (fun e => (hrc.2.2.1 i (hp i hi e)).2.2.1), upd_rel2 (fun e => (hrc.2.2.1 i (hp i hi e)).2.2.2)⟩
  · rw [hcn] at hi
    rw [b2, b3, b4, b5, s4, s5, s6, s7]
    exact ⟨upd_rel2 (fun e => (hrm.2.2.1 i (hp i hi e)).1), upd_rel2 (fun e => (hrm.2.2.1 i (hp i hi e)).2.1), upd_rel2 (fun e => (hrm.2.2.1 i (hp i hi e)).2.2.1), upd_rel2 (fun e => (hrm.2.2.1 i (hp i hi e)).2.2.2)⟩
theorem zW_c {p : Nat} {v1 v2 v3 v4 : Int32} : zW 11 12 13 14 z p v1 v2 v3 v4 11 = upd (z 11) p v1 ∧ zW 11 12 13 14 z p v1 v2 v3 v4 12 = upd (z 12) p v2 ∧ zW 11 12 13 14 z p v1 v2 v3 v4 13 = upd (z 13) p v3 ∧ zW 11 12 13 14 z p v1 v2 v3 v4 14 = upd (z 14) p v4 ∧ ∀ a, a < 11 ∨ 14 < a → zW 11 12 13 14 z p v1 v2 v3 v4 a = z a :=
  ⟨rfl, rfl, rfl, rfl, fun a ha => by unfold zW; rw [va_up_ne _ _ (by omega), va_up_ne _ _ (by omega), va_up_ne _ _ (by omega), va_up_ne _ _ (by omega)]⟩
theorem zW_m {p : Nat} {v1 v2 v3 v4 : Int32} : zW 56 57 58 59 z p v1 v2 v3 v4 56 = upd (z 56) p v1 ∧ zW 56 57 58 59 z p v1 v2 v3 v4 57 = upd (z 57) p v2 ∧ zW 56 57 58 59 z p v1 v2 v3 v4 58 = upd (z 58) p v3 ∧ zW 56 57 58 59 z p v1 v2 v3 v4 59 = upd (z 59) p v4 ∧ ∀ a, a < 56 ∨ 59 < a → zW 56 57 58 59 z p v1 v2 v3 v4 a = z a :=
  ⟨rfl, rfl, rfl, rfl, fun a ha => by unfold zW; rw [va_up_ne _ _ (by omega), va_up_ne _ _ (by omega), va_up_ne _ _ (by omega), va_up_ne _ _ (by omega)]⟩
theorem op_route (hj : Jn n h) (hn : n < 512) : pu_i false 49 81 cd_route [.int x, .int l, .int k, .int nx] h (Jn (n + 1)) := by
  obtain ⟨-, S, z, w, c, s, rfl, hwf, hrc, hrm, hc, hs⟩ := hj
  have hJ := Jn_same hn hwf hrc hrm hc hs
  by_cases g1 : l < 0 ∨ ¬ l ≤ 32
  · exact pu_ix (q := 1) (r := 1) (b := 0) (sF_49 (f := 0) (t49_b g1)) rfl (sF_81 (f := 0) (t81_b g1)) (z42_s 1) (hJ 1).2
  have h1 : ¬ l < 0 := fun h9 => g1 (Or.inl h9)
  have h2 : l ≤ 32 := Classical.byContradiction (fun h9 => g1 (Or.inr h9))
  by_cases g2 : k < 0 ∨ ¬ k < 8
  · exact pu_ix (q := 0) (r := 2) (b := 0) (sF_49 (f := 0) (t49_p h1 h2 g2)) rfl (sF_81 (f := 0) (t81_p h1 h2 (g2.imp id (fun h9 => i32_nlt.mp h9)))) (z42_s 2) (hJ 2).2
  have h3 : ¬ k < 0 := fun h9 => g2 (Or.inl h9)
  have h4 : k < 8 := Classical.byContradiction (fun h9 => g2 (Or.inr h9))
  have h4m : ¬ 8 ≤ k := fun h9 => i32_nlt.mpr h9 h4
  have hv2 : ∃ m, m ≤ 32 ∧ l = nI m := nI_lit (m := 32) h1 h2 (by omega)
  have hv3 : ∃ m, m < 8 ∧ k = nI m := by
    obtain ⟨-, i, hi, e, -⟩ := nI_in9 (m := 8) h3 h4 (Nat.le_refl 8) (by omega)
    exact ⟨i, hi, e⟩
  have e0 := hwf.1.1
  have e1 : z 10 4 = nI (cn S 0) := hrc.2.1.1.trans e0.1
  have e2 : z 52 7 = nI (cn S 0) := hrm.2.1.1.trans e0.1
  have h400 := e0.2
  have he : fnd (z 11) (z 12) (bgn x l) l (cn S 0) 0 = fnd (z 56) (z 57) (bgn x l) l (cn S 0) 0 := fnd_eq (n := cn S 0) (fun i hi => (hrc.2.2.1 i hi).1.trans (hrm.2.2.1 i hi).1.symm) (fun i hi => (hrc.2.2.1 i hi).2.1.trans (hrm.2.2.1 i hi).2.1.symm) (cn S 0) 0 (by omega)
  have hb : bok (fnd (z 11) (z 12) (bgn x l) l (cn S 0) 0) (cn S 0) := fnd_ok (cn S 0) 0 (by omega)
  have q1 := t28 (f := 401) (w := w) (c := c) (s := s) (a := x) (l := l) e0.2 e1 (by omega)
  have q2 : ∀ (z1 : Nat → Nat → Int32) (c s : Nat), z1 52 7 = nI (cn S 0) → z1 56 = z 56 → z1 57 = z 57 → F_80 401 52 x l (hq z1 w c s) = some (.inl (some (.int (fnd (z 11) (z 12) (bgn x l) l (cn S 0) 0))), hq z1 w c s) := fun z1 c s u1 u2 u3 => by
    have := t80 (f := 401) (z := z1) (w := w) (c := c) (s := s) (a := x) (l := l) e0.2 u1 (by omega)
    rw [u2, u3, ← he] at this
    exact this
  generalize fnd (z 11) (z 12) (bgn x l) l (cn S 0) 0 = b at q1 q2 hb
  rcases hb with rfl | ⟨p, hp, rfl⟩
  · by_cases g3 : cn S 0 < 400
    · have f1 := t49_n (nx := nx) g3 e1 h1 h2 h3 h4 q1
      obtain ⟨c1, c2, c3, c4, c5⟩ := @zW_c z (cn S 0) (bgn x l) l k nx
      have k10 : va_up (zW 11 12 13 14 z (cn S 0) (bgn x l) l k nx) 10 (upd (z 10) 4 (nI (cn S 0 + 1))) 10 4 = nI (cn S 0 + 1) := by rw [va_up_self, pk_us]
      have kn : ∀ a, a ≠ 10 → va_up (zW 11 12 13 14 z (cn S 0) (bgn x l) l k nx) 10 (upd (z 10) 4 (nI (cn S 0 + 1))) a = zW 11 12 13 14 z (cn S 0) (bgn x l) l k nx a := fun a ha => va_up_ne _ _ ha
      generalize va_up (zW 11 12 13 14 z (cn S 0) (bgn x l) l k nx) 10 (upd (z 10) 4 (nI (cn S 0 + 1))) = z1 at f1 k10 kn
      have ko : ∀ a, a < 10 ∨ 14 < a → z1 a = z a := fun a ha => by rw [kn a (by omega), c5 a (by omega)]
      have hz1 : z42 z1 0 52 7 = nI (cn S 0) := by rw [z42_52 0 (by omega), ko 52 (by omega)]; exact e2
      have w1 : ∀ a, 52 < a → z42 z1 0 a = z a := fun a ha => by rw [z42_n 0 (by omega), ko a (by omega)]
      have f2 := t81_n (nx := nx) (z := z1) g3 h1 h2 h3 h4m (q2 _ c s hz1 (w1 56 (by omega)) (w1 57 (by omega))) hz1
      obtain ⟨d1, d2, d3, d4, d5⟩ := @zW_m (va_up (z42 z1 0) 52 (upd (z42 z1 0 52) 7 (nI (cn S 0 + 1)))) (cn S 0) (bgn x l) l k nx
      generalize zW 56 57 58 59 (va_up (z42 z1 0) 52 (upd (z42 z1 0 52) 7 (nI (cn S 0 + 1)))) (cn S 0) (bgn x l) l k nx = z2 at f2 d1 d2 d3 d4 d5
      have d0 : ∀ a, a ≠ 52 → va_up (z42 z1 0) 52 (upd (z42 z1 0 52) 7 (nI (cn S 0 + 1))) a = z1 a := fun a ha => by rw [va_up_ne _ _ ha, z42_n 0 ha]
      have d52 : z2 52 = upd (z42 z1 0 52) 7 (nI (cn S 0 + 1)) := by rw [d5 52 (by omega), va_up_self]
      refine pu_i1 (bo := false) (sF_49 f1) (fun h => by cases h) (sF_81 f2) (by rw [d52, pk_un (by omega)]; exact z42_s 0) (Jn_put (p := cn S 0) (t := cn S 0 + 1) (v1 := bgn x l) (v4 := nx) hn hwf hrc hrm hc hs (by omega) (fun i h5 h6 => by omega) hv2 hv3 (fun a h5 h6 => by rw [d5 a (by omega), d0 a (by omega), ko a h6]) (by rw [d5 10 (by omega), d0 10 (by omega), k10]) (by rw [d5 11 (by omega), d0 11 (by omega), kn 11 (by omega), c1]) (by rw [d5 12 (by omega), d0 12 (by omega), kn 12 (by omega), c2]) (by rw [d5 13 (by omega), d0 13 (by omega), kn 13 (by omega), c3]) (by rw [d5 14 (by omega), d0 14 (by omega), kn 14 (by omega), c4]) (fun a h5 h6 => by rw [d5 a h6, d0 a (by omega), ko a (by omega)]) (fun j h5 h6 => by rw [d52, pk_un h5, z42_52 0 h6, ko 52 (by omega)]) (by rw [d52, pk_us]) (by rw [d1, d0 56 (by omega), ko 56 (by omega)]) (by rw [d2, d0 57 (by omega), ko 57 (by omega)]) (by rw [d3, d0 58 (by omega), ko 58 (by omega)]) (by rw [d4, d0 59 (by omega), ko 59 (by omega)]))
    · have g4 : cn S 0 = 400 := by omega
      have hz1 : z42 z 0 52 7 = nI (cn S 0) := (z42_52 0 (by omega)).trans e2
      exact pu_ix (q := 2) (r := 3) (b := 0) (sF_49 (t49_u h1 h2 h3 h4 q1 (by rw [e1, g4]; decide))) rfl (sF_81 (t81_u h1 h2 h3 h4m (q2 _ _ _ hz1 (z42_n 0 (by omega)) (z42_n 0 (by omega))) (by rw [hz1, g4]; rfl))) (z42_s 3) (hJ 3).2
  · have f1 := t49_f (nx := nx) (show p < 400 by omega) h1 h2 h3 h4 q1
    rw [e1] at f1
    obtain ⟨c1, c2, c3, c4, c5⟩ := @zW_c z p (bgn x l) l k nx
    generalize zW 11 12 13 14 z p (bgn x l) l k nx = z1 at f1 c1 c2 c3 c4 c5
    have hz1 : z42 z1 0 52 7 = nI (cn S 0) := by rw [z42_52 0 (by omega), c5 52 (by omega)]; exact e2
    have w1 : ∀ a, 52 < a → z42 z1 0 a = z a := fun a ha => by rw [z42_n 0 (by omega), c5 a (by omega)]
    have f2 := t81_f (nx := nx) (z := z1) (show p < 400 by omega) h1 h2 h3 h4m (q2 _ c s hz1 (w1 56 (by omega)) (w1 57 (by omega)))
    rw [hz1] at f2
    obtain ⟨d1, d2, d3, d4, d5⟩ := @zW_m (z42 z1 0) p (bgn x l) l k nx
    generalize zW 56 57 58 59 (z42 z1 0) p (bgn x l) l k nx = z2 at f2 d1 d2 d3 d4 d5
    have d52 : z2 52 = z42 z1 0 52 := d5 52 (by omega)
    have d0 : ∀ a, a < 52 → z2 a = z1 a := fun a ha => by rw [d5 a (by omega), z42_n 0 (by omega)]
    refine pu_i1 (bo := false) (sF_49 f1) (fun h => by cases h) (sF_81 f2) (by rw [d52]; exact z42_s 0) (Jn_put (p := p) (t := cn S 0) (v1 := bgn x l) (v4 := nx) hn hwf hrc hrm hc hs (by omega) (fun i h5 h6 => h5) hv2 hv3 (fun a h5 h6 => by rw [d0 a h5, c5 a (by omega)]) (by rw [d0 10 (by omega), c5 10 (by omega)]; exact e1) (by rw [d0 11 (by omega), c1]) (by rw [d0 12 (by omega), c2]) (by rw [d0 13 (by omega), c3]) (by rw [d0 14 (by omega), c4]) (fun a h5 h6 => by rw [d5 a h6, w1 a h5]) (fun j h5 h6 => by rw [d52, z42_52 0 h6, c5 52 (by omega)]) (by rw [d52, hz1]) (by rw [d1, w1 56 (by omega)]) (by rw [d2, w1 57 (by omega)]) (by rw [d3, w1 58 (by omega)]) (by rw [d4, w1 59 (by omega)]))
end Ops11
