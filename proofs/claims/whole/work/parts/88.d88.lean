section Recv88
variable {n : Nat} {x : Int32} {h : hp_T}
theorem op_receive (hj : Jn n h) (hn : n < 512) : pu_i false 56 112 cd_receive [.int x] h (Jn (n + 1)) := by
  obtain ⟨-, S, z, w, c, s, rfl, hwf, hrc, hrm, hc, hs⟩ := hj
  have hJ := Jn_same hn hwf hrc hrm hc hs
  by_cases h1 : x < 0
  · exact pu_ix (q := 0) (r := 1) (sF_56 (f := 0) (t56_a h1)) rfl (sF_112 (f := 0) (t112_a h1)) (z42_s 1) (hJ 1).2
  by_cases h2 : x < 8
  case neg => exact pu_ix (q := 0) (r := 1) (sF_56 (f := 0) (t56_b h1 h2)) rfl (sF_112 (f := 0) (t112_b h1 (i32_nlt.mp h2))) (z42_s 1) (hJ 1).2
  obtain ⟨p, hp31, rfl⟩ := nI_of h1
  have hp : p < 8 := by rw [show (8 : Int32) = nI 8 from rfl, nI_ltI hp31 (by omega)] at h2; exact h2
  have hX := em0_X hwf.1.2.2.2.2.2.2.2.1.2 hrm
  obtain ⟨z1, w1, k1, k2, k3⟩ := n56 (f := 100000) (c := c) (s := s) hn hwf hrc hX hp (by omega)
  have hrm1 : rmd S z1 := rmd_of hrm (fun a ha => k3 a (by omega))
  have hP : mb z1 60 (cn S 1) (bz z 16) := ⟨bz_lt z 16, fun i hi => by rw [k3 60 (by omega), hrm.2.2.2.1 i hi, ← bz_eq]; exact (hrc.2.2.2.1 i hi).symm⟩
  obtain ⟨z2, j1, j2, j3, j4⟩ := m112 (f := 100000) (w := w1) (c := c) (s := s) hn hwf hrm1 hP hp (by omega)
  obtain ⟨W1, W2, W3, W4, W5, W6, W7⟩ := em0_W hn hwf
  have rvx := rv_all (P := bz z 16) (m := cn S 1) (t := cn S 5) W1 W2 W3 hX W4 (bz_lt z 16) hwf.1.2.1.2 em0_c2 em0_c11 W7 hp
  exact pu_i1 (sF_56 k1) (fun h9 => by cases h9) (sF_112 j1) j4 ⟨by omega, _, z2, w1, c, s, rfl, wf_rv hwf rvx, rc_of k2 (fun a ha => j3 a ha), j2, by omega, by omega⟩
end Recv88
