section Pass89c
variable {n : Nat} {x : Int32} {h : hp_T}
theorem op_pass (hj : Jn n h) (hn : n < 512) : pu_i false 57 114 cd_pass [.int x] h (Jn (n + 1)) := by
  obtain ⟨-, S, z, w, c, s, rfl, hwf, hrc, hrm, hc, hs⟩ := hj
  have hJ := Jn_same hn hwf hrc hrm hc hs
  by_cases h1 : x < 0
  · exact pu_ix (q := 1) (r := 1) (sF_57 (f := 0) (t57_a h1)) rfl (sF_114 (f := 0) (t114_a h1)) (z42_s 1) (hJ 1).2
  by_cases h2 : x ≤ 100
  case neg => exact pu_ix (q := 1) (r := 1) (sF_57 (f := 0) (t57_b h1 h2)) rfl (sF_114 (f := 0) (t114_b h1 h2)) (z42_s 1) (hJ 1).2
  obtain ⟨q, hq31, rfl⟩ := nI_of h1
  have hq100 : q ≤ 100 := by rw [show (100 : Int32) = nI 100 from rfl, nI_leI hq31 (by omega)] at h2; exact h2
  have hX := em0_X hwf.1.2.2.2.2.2.2.2.1.2 hrm
  obtain ⟨z1, w1, k1, k2, k3⟩ := n57 (f := 100000) (c := c) (s := s) hn hwf hrc hX hq100 (by omega)
  have hrm1 : rmd S z1 := rmd_of hrm (fun a ha => k3 a (by omega))
  obtain ⟨z2, j1, j2, j3, j4⟩ := m114 (f := 100000) (w := w1) (c := c) (s := s) hn hwf hrm1 hq100 (by omega)
  have hI := PI_0 hn hwf hX
  obtain ⟨P1, P2⟩ := psF_PI (show 4 * n + 4 ≤ 3000 by omega) q (em0 S) (cn S 5) hI
  exact pu_i1 (sF_57 k1) (fun h9 => by cases h9) (sF_114 j1) j4 ⟨by omega, _, z2, w1, c, s, rfl, wf_ps hn hq100 hwf P1 P2, rc_of k2 (fun a ha => j3 a ha), j2, by omega, by omega⟩
end Pass89c
