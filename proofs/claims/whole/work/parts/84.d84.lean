-- receive: both sides
section Recv84
variable {S T : St9} {z z' : Nat → Nat → Int32} {w : Nat → Option Nat} {f c s n data p t : Nat} {P : Nat → Nat}
theorem wo_u {u : Nat} (h : wo P = some u) : u < 60 := by
  have hl6 := hl_le P
  have : ∀ (g t : Nat), woN P (hl P) g t = some u → u < hl P := by
    intro g
    induction g with
    | zero => intro t h; cases h
    | succ g ih =>
      intro t h
      unfold woN at h
      by_cases h1 : hl P ≤ t ∨ P t = 0
      · rw [if_pos h1] at h; cases h
      · rw [if_neg h1] at h
        by_cases h2 : opz P t (hl P) = 0
        · rw [if_pos h2] at h; cases h; omega
        · rw [if_neg h2] at h; exact ih _ h
  have := this 100 20 h
  omega
theorem sn_d (hW : wE S) (hRW : rtW S) (hp : p < 8) (h0 : 20 ≤ hl P) (hMq : hl P + data ≤ 2000) (h2 : cn S 2 = 0) (h11 : cn S 11 = 0) : (∀ k, 6 ≤ k → k ≤ 9 → (snS S p P data).1 3 k = S 3 k) ∧ (snS S p P data).1 14 = S 14 := by
  have q8le : q8N data ≤ 8 := by unfold q8N; split <;> omega
  unfold snS
  split
  · exact ⟨fun _ _ _ => rfl, rfl⟩
  · split
    · have hk := erS_k (S := S) (p := p) (P := P) (q := q8N data) (ty := 11) (co := 0) (re := 0) hW hp q8le (by omega) (by omega)
      exact ⟨fun k h1 h2 => hk.2.1 k (by omega) (by omega) (by omega) (by omega), hk.1 14 (by omega) (by omega)⟩
    · split
      · have hk := erS_k (S := S) (p := p) (P := P) (q := q8N data) (ty := 3) (co := 0) (re := 0) hW hp q8le (by omega) (by omega)
        exact ⟨fun k h1 h2 => hk.2.1 k (by omega) (by omega) (by omega) (by omega), hk.1 14 (by omega) (by omega)⟩
      · rename_i h5'
        split
        · have hk := erS_k (S := S) (p := p) (P := P) (q := q8N data) (ty := 3) (co := 1) (re := 0) hW hp q8le (by omega) (by omega)
          exact ⟨fun k h1 h2 => hk.2.1 k (by omega) (by omega) (by omega) (by omega), hk.1 14 (by omega) (by omega)⟩
        · split
          · have hk := erS_k (S := S) (p := p) (P := P) (q := q8N data) (ty := 3) (co := 4) (re := mtN S (wyN S (nI (n4 P 16)))) hW hp q8le (by omega) (by omega)
            exact ⟨fun k h1 h2 => hk.2.1 k (by omega) (by omega) (by omega) (by omega), hk.1 14 (by omega) (by omega)⟩
          · have hk := sn_o (P := P) (data := data) hW hRW h0 (by omega) h2 h11 h5' (if S 7 (rtN S (nI (n4 P 16))) = 0 then nI (n4 P 16) else S 7 (rtN S (nI (n4 P 16))))
            exact ⟨fun k h1 h2 => hk.2.1 k (by omega) (by omega), hk.1 14 (by omega) (by omega)⟩
theorem jn_E2 {e : Nat} {E : Nat → Int32} (hX : wX S) (he : e < cn S 10) (hP : ∀ i, P i < 256) (hp : p < 8) (h0 : 20 ≤ hl P) (hdt : n2 P 2 = hl P + data) (hpc : ¬ n2 P 6 % 16384 = 0) (hw : ¬ wrP P data) (hr : ¬ rfE (S (15 + e)) P data) (h : (jn2 S e P p data).2 = some E) : eW E ∧ E 7 = 1 := by
  have hE' := eW_ad (hX.2 e he) hP hp h0 hdt hpc hw hr
  unfold jn2 at h
  by_cases hcp : cpE (adE (S (15 + e)) P p data)
  · rw [if_pos hcp] at h
    cases h
    refine ⟨hE', ?_⟩
    apply hE'.2.2.2.2.2.2.2.2.1
    have her := adx_r (E := S (15 + e)) (P := P) (p := p) (data := data) (by omega) (hX.2 e he).2.2.2.1.2
    have h1 : 0 < er (adE (S (15 + e)) P p data) := by rw [her]; split <;> omega
    exact ((cp_all hE').mp hcp.2 0 h1).1
  · rw [if_neg hcp] at h; cases h
theorem jn_EW {E : Nat → Int32} (hX : wX S) (hP : ∀ i, P i < 256) (hp : p < 8) (h0 : 20 ≤ hl P) (hdt : n2 P 2 = hl P + data) (hpc : ¬ n2 P 6 % 16384 = 0) (ht : t ≤ 60000) (h : (jnS S P p data t).2 = some E) : eW E ∧ E 7 = 1 := by
  unfold jnS at h
  cases hfd : fd S P with
  | some e =>
    rw [hfd] at h
    dsimp only at h
    have hb := fdS_b _ _ _ (show fdS S P (cn S 10) 0 = some e from hfd)
    by_cases h1 : wrP P data ∨ rfE (S (15 + e)) P data
    · rw [if_pos h1] at h; cases h
    · rw [if_neg h1] at h; exact jn_E2 hX (by omega) hP hp h0 hdt hpc (fun h9 => h1 (Or.inl h9)) (fun h9 => h1 (Or.inr h9)) h
  | none =>
    rw [hfd] at h
    dsimp only at h
    have hk4 := bg_c hX.1
    by_cases h1 : wrP P data
    · rw [if_pos h1] at h; cases h
    · rw [if_neg h1] at h; exact jn_E2 (wX_nw (wX_bg hX) hk4 hP ht) (by rw [nwS_c hk4]; omega) hP hp h0 hdt hpc h1 (by rw [nwS_e]; exact rf_nw) h
def rvS (S : St9) (p : Nat) (P : Nat → Nat) (n t : Nat) : St9 × Int32 := if hfN P n = 0 then sdT S p P (n2 P 2 - hl P) t else (S, nI (hfN P n))
theorem m111 (hK : kM S z) (hW : wE S) (hRW : rtW S) (hX : wX S) (hP : mb z 61 n P) (hn : n ≤ 2000) (h2 : cn S 2 = 0) (h11 : cn S 11 = 0) (h5 : S 3 5 = nI t) (ht : t ≤ 60000) (hp : p < 8) (hf : 50000 < f) : ∃ z', F_111 f 52 (nI p) (nI n) (hq z w c s) = some (.inl (some (.int (rvS S p P n t).2)), hq z' w c s) ∧ kM (rvS S p P n t).1 z' ∧ (∀ a, a < 52 → z' a = z a) ∧ ∀ k, k = 9 ∨ k = 42 → z' 52 k = z 52 k := by
  obtain ⟨K1, K2, K3, K4, K5⟩ := id hK
  have kzS : ∀ v, kM S (zS z v) := fun v => ⟨mE_of K1 (fun _ _ _ => rfl) (fun _ _ => rfl) (fun a h1 _ _ _ => zS_ne v (by omega)) (fun k h1 h2 => zS_k v (by omega)), dM_of K2 (fun _ _ _ => rfl) rfl (fun k h1 h2 => zS_k v (by omega)) (zS_ne v (by omega)), wM_of K3 rfl (fun _ _ => rfl) (fun a h1 h2 => zS_ne v (by omega)) (zS_k v (by omega)), rtM_of K4 rfl (fun _ _ _ => rfl) (fun a h1 h2 => zS_ne v (by omega)) (zS_k v (by omega)), by rw [zS_k v (by omega)]; exact K5⟩
  have fin0 : ∀ v, (∀ a, a < 52 → zS z v a = z a) ∧ ∀ k, k = 9 ∨ k = 42 → zS z v 52 k = z 52 k := fun v => ⟨fun a ha => zS_ne v (by omega), fun k hk => zS_k v (by omega)⟩
  unfold rvS
  by_cases g1 : n < 20
  · have hh : hfN P n = 1 := by unfold hfN; rw [if_pos g1]
    rw [hh, if_neg (by omega)]
    exact ⟨z, m111_1 g1, hK, fun _ _ => rfl, fun _ _ => rfl⟩
  by_cases g2 : P 0 / 16 = 4
  case neg =>
    have hh : hfN P n = 2 := by unfold hfN; rw [if_neg g1, if_pos g2]
    rw [hh, if_neg (by omega)]
    exact ⟨z, m111_2 hP (by omega) g1 g2, hK, fun _ _ => rfl, fun _ _ => rfl⟩
  by_cases g3 : hl P < 20 ∨ n < hl P
  · have hh : hfN P n = 3 := by unfold hfN; rw [if_neg g1, if_neg (fun h => h g2), if_pos g3]
    rw [hh, if_neg (by omega)]
    exact ⟨z, m111_3 hP (by omega) g1 g2 g3, hK, fun _ _ => rfl, fun _ _ => rfl⟩
  by_cases g4 : n2 P 2 < hl P ∨ n < n2 P 2
  · have hh : hfN P n = 4 := by unfold hfN; rw [if_neg g1, if_neg (fun h => h g2), if_neg g3, if_pos g4]
    rw [hh, if_neg (by omega)]
    exact ⟨_, m111_4 hP (by omega) g1 g2 g3 g4, kzS _, (fin0 _).1, (fin0 _).2⟩
  by_cases g5 : ck (sN P 0 10 (hl P)) = n2 P 10
  case neg =>
    have hh : hfN P n = 5 := by unfold hfN; rw [if_neg g1, if_neg (fun h => h g2), if_neg g3, if_neg g4, if_pos g5]
    rw [hh, if_neg (by omega)]
    exact ⟨_, m111_5 hP (by omega) g1 g2 g3 g4 (by omega) g5, kzS _, (fin0 _).1, (fin0 _).2⟩
  by_cases g6 : P 12 = 127 ∨ 223 < P 12 ∨ 65535 < n2 P 6 % 8192 * 8 + (n2 P 2 - hl P)
  · have hh : hfN P n = 6 := by unfold hfN; rw [if_neg g1, if_neg (fun h => h g2), if_neg g3, if_neg g4, if_neg (fun h => h g5), if_pos g6]
    rw [hh, if_neg (by omega)]
    exact ⟨_, m111_6 hP (by omega) g1 g2 g3 g4 (by omega) g5 g6, kzS _, (fin0 _).1, (fin0 _).2⟩
  have hh : hfN P n = 0 := by unfold hfN; rw [if_neg g1, if_neg (fun h => h g2), if_neg g3, if_neg g4, if_neg (fun h => h g5), if_neg g6]
  rw [hh, if_pos rfl]
  obtain ⟨data, ed⟩ : ∃ x, x = n2 P 2 - hl P := ⟨_, rfl⟩
  rw [← ed]
  have hdt : n2 P 2 = hl P + data := by omega
  have hl6 := hl_le P
  obtain ⟨z1, e1⟩ : ∃ x, x = zS z (nI (n2 P 2)) := ⟨_, rfl⟩
  have hK1 : kM S z1 := by rw [e1]; exact kzS _
  obtain ⟨N1, N2, N3, N4, N5⟩ := id hK1
  have hP1 : mb z1 61 n P := by rw [e1]; exact mb_zS _ (by omega) hP
  have h12 : z1 52 12 = nI (hl P + data) := by rw [e1, zS_12, hdt]
  have f1 : (∀ a, a < 52 → z1 a = z a) ∧ ∀ k, k = 9 ∨ k = 42 → z1 52 k = z 52 k := by rw [e1]; exact fin0 _
  have hR1 : rdM z1 n P data := ⟨hP1, hn, by omega, h12, by omega⟩
  have q106 := m106 (f := f) (w := w) (c := c) (s := s) (x := nI (n4 P 16)) (fun i hi => (N1.1 i hi).1) (by omega)
  have q8le : q8N data ≤ 8 := by unfold q8N; split <;> omega
  unfold sdT
  cases hwo : wo P with
  | some u =>
    dsimp only
    have hu := wo_u hwo
    have ne1 : ¬ nI u = -1 := by
      intro h
      have h9 : (nI u).toInt = (-1 : Int32).toInt := by rw [h]
      rw [nI_toInt (by omega), show (-1 : Int32).toInt = -1 from rfl] at h9
      omega
    obtain ⟨z2, k1, k2, k3, k4⟩ := m98 (f := f) (w := w) (c := c) (s := s) (q := q8N data) (ty := 12) (co := 0) (re := u * 16777216) N1 hW hp hP1 (by omega) (by omega) h12 (by omega) (by omega) (by unfold q8N; rw [show hl P + data - hl P = data by omega]) (by unfold q8N; split <;> omega) (by omega) (by omega) (by omega) (by omega) (by omega) (by omega)
    have sh : nI u <<< ((24 : Int32) &&& 31) = nI (u * 16777216) := by rw [c24]; exact (nI_shl u).2.2
    have k1' : F_98 f 52 (nI p) 12 0 (nI u <<< ((24 : Int32) &&& 31)) (hq (zS z (nI (n2 P 2))) w c s) = some (.inl none, hq z2 w c s) := by rw [sh, ← e1]; exact k1
    obtain ⟨L1, L2, L3, L4, L5, L6⟩ := lv_er (S := S) (p := p) (P := P) (q := q8N data) (ty := 12) (co := 0) (re := u * 16777216) hW hp q8le (by omega) (by omega)
    have hk := erS_k (S := S) (p := p) (P := P) (q := q8N data) (ty := 12) (co := 0) (re := u * 16777216) hW hp q8le (by omega) (by omega)
    refine ⟨z2, m111_7 hP (by omega) g1 g2 g3 g4 (by omega) g5 g6 hwo ne1 k1', ⟨k2, dM_of N2 (fun k h1 h2 => hk.2.1 k (by omega) (by omega) (by omega) (by omega)) (hk.1 14 (by omega) (by omega)) (fun k h1 h2 => k4 k (by omega) (by omega) (by omega) (by omega)) (k3 68 (by omega) (by omega)), wM_of N3 L6 L2 (fun a h1 h2 => k3 a (by omega) (by omega)) (k4 28 (by omega) (by omega) (by omega) (by omega)), rtM_of N4 L3 (fun k h1 h2 => L1 k (by omega) (by omega)) (fun a h1 h2 => k3 a (by omega) (by omega)) (k4 7 (by omega) (by omega) (by omega) (by omega)), by rw [k4 22 (by omega) (by omega) (by omega) (by omega), L5]; exact N5⟩, fun a ha => by rw [k3 a (by omega) (by omega), f1.1 a ha], fun k hk9 => by rw [k4 k (by omega) (by omega) (by omega) (by omega), f1.2 k hk9]⟩
  | none =>
    dsimp only
    by_cases hown : ownB S (nI (n4 P 16)) = true
    case neg =>
      rw [if_neg hown]
      have hb : ownB S (nI (n4 P 16)) = false := by
        cases h : ownB S (nI (n4 P 16))
        · rfl
        · exact absurd h hown
      rw [hb, e1] at q106
      obtain ⟨z2, k1, k2, k3, k4⟩ := m110 (f := f) (w := w) (c := c) (s := s) N1 hW N4 hRW hp hP1 hn (by omega) h12 rfl (by omega) hwo (by omega) h2 h11 (by omega)
      rw [e1] at k1
      obtain ⟨L1, L2, L3, L4, L5, L6⟩ := lv_sn (P := P) (data := data) hW hRW hp (by omega) (by omega) h2 h11
      have hdd := sn_d (P := P) (data := data) hW hRW hp (by omega) (by omega) h2 h11
      refine ⟨z2, m111_8 hP (by omega) g1 g2 g3 g4 (by omega) g5 g6 hwo q106 k1, ⟨k2, dM_of N2 hdd.1 hdd.2 (fun k h1 h2 => k4 k (by omega) (by omega) (by omega) (by omega)) (k3 68 (by omega) (by omega)), wM_of N3 L6 L2 (fun a h1 h2 => k3 a (by omega) (by omega)) (k4 28 (by omega) (by omega) (by omega) (by omega)), rtM_of N4 L3 (fun k h1 h2 => L1 k (by omega) (by omega)) (fun a h1 h2 => k3 a (by omega) (by omega)) (k4 7 (by omega) (by omega) (by omega) (by omega)), by rw [k4 22 (by omega) (by omega) (by omega) (by omega), L5]; exact N5⟩, fun a ha => by rw [k3 a (by omega) (by omega), f1.1 a ha], fun k hk9 => by rw [k4 k (by omega) (by omega) (by omega) (by omega), f1.2 k hk9]⟩
    rw [if_pos hown]
    rw [hown, e1] at q106
    by_cases hpc : n2 P 6 % 16384 = 0
    · rw [if_pos hpc]
      obtain ⟨z2, k1, k2, k3, k4, k5⟩ := m109 (f := f) (w := w) (c := c) (s := s) (P := P) (data := data) N1 N2 hW hp hP1 (by omega) (by omega) h12 rfl (by omega) (by omega) h2 h11 (by omega)
      rw [e1] at k1
      obtain ⟨L1, L2, L3, L4, L5, L6⟩ := lv_ow (P := P) (data := data) hW hp (by omega) h2 h11
      exact ⟨z2, m111_9 hP (by omega) g1 g2 g3 g4 (by omega) g5 g6 hwo q106 hpc k1, ⟨k2, k3, wM_of N3 L6 L2 (fun a h1 h2 => k4 a (by omega) (by omega)) (k5 28 (by omega) (by omega) (by omega)), rtM_of N4 L3 (fun k h1 h2 => L1 k (by omega) (by omega)) (fun a h1 h2 => k4 a (by omega) (by omega)) (k5 7 (by omega) (by omega) (by omega)), by rw [k5 22 (by omega) (by omega) (by omega), L5]; exact N5⟩, fun a ha => by rw [k4 a (by omega) (by omega), f1.1 a ha], fun k hk9 => by rw [k5 k (by omega) (by omega) (by omega), f1.2 k hk9]⟩
    · rw [if_neg hpc]
      obtain ⟨z2, j1, j2, j3, j4, j5⟩ := m105 (f := f) (w := w) (c := c) (s := s) (p := p) (t := t) N3 hX hR1 hdt hp hpc (N5.trans h5) ht (by omega)
      rw [e1] at j1
      obtain ⟨b1', b2⟩ := jnS_b (S := S) (P := P) (p := p) (data := data) (t := t)
      have N1' : mE (jnS S P p data t).1 z2 := mE_of N1 b1' (fun k hk => b2 k (by omega)) (fun a h1 h2 h3 h4 => j3 a (by omega) h3 (by omega)) (fun k h1 h2 => j4 k (by omega) (by omega))
      have N2' : dM (jnS S P p data t).1 z2 := dM_of N2 (fun k h1 h2 => b2 k (by omega)) (b1' 14 (by omega) (by omega)) (fun k h1 h2 => j4 k (by omega) (by omega)) (j3 68 (by omega) (by omega) (by omega))
      have N4' : rtM (jnS S P p data t).1 z2 := rtM_of N4 (b2 0 (by omega)) (fun k h1 h2 => b1' k (by omega) (by omega)) (fun a h1 h2 => j3 a (by omega) (by omega) (by omega)) (j4 7 (by omega) (by omega))
      have N5' : z2 52 22 = (jnS S P p data t).1 3 5 := by rw [j4 22 (by omega) (by omega), b2 5 (by omega)]; exact N5
      cases hj : (jnS S P p data t).2 with
      | none =>
        rw [hj] at j1
        dsimp only
        exact ⟨z2, m111_A hP (by omega) g1 g2 g3 g4 (by omega) g5 g6 hwo q106 hpc j1 kq_52 (Or.inl ⟨rfl, rfl, rfl⟩), ⟨N1', N2', j2, N4', N5'⟩, fun a ha => by rw [j3 a (by omega) (by omega) (by omega), f1.1 a ha], fun k hk9 => by rw [j4 k (by omega) (by omega), f1.2 k hk9]⟩
      | some E =>
        rw [hj] at j1
        dsimp only
        obtain ⟨hB, hS12⟩ := j5 E hj
        obtain ⟨hEW, hE7⟩ := jn_EW hX hP1.1 hp (by omega) hdt hpc ht hj
        have hv1 := (hEW.2.2.2.2.2.2.2.2.2.1 hE7).2.1
        have her := hEW.2.2.2.1.2
        have hhl := wh_h E hv1
        have hW' : wE (jnS S P p data t).1 := wE_of hW b1' (fun k hk => b2 k (by omega))
        have c2' : cn (jnS S P p data t).1 2 = 0 := by rw [cn_of (b2 2 (by omega))]; exact h2
        have c11' : cn (jnS S P p data t).1 11 = 0 := by rw [cn_of (b2 11 (by omega))]; exact h11
        have hlq := hl_le (fq E)
        obtain ⟨z3, k1, k2, k3, k4, k5⟩ := m109 (f := f) (w := w) (c := c) (s := s) (P := whB E) (data := er E) N1' N2' hW' hp hB (by omega) (by rw [hhl]; exact hv1) hS12 (by rw [hhl]) (by rw [hhl]; omega) her c2' c11' (by omega)
        obtain ⟨L1, L2, L3, L4, L5, L6⟩ := lv_ow (P := whB E) (data := er E) hW' hp her c2' c11'
        exact ⟨z3, m111_A hP (by omega) g1 g2 g3 g4 (by omega) g5 g6 hwo q106 hpc j1 kq_52 (Or.inr ⟨show ¬ (1 : Int32) = 0 by decide, k1⟩), ⟨k2, k3, wM_of j2 L6 L2 (fun a h1 h2 => k4 a (by omega) (by omega)) (k5 28 (by omega) (by omega) (by omega)), rtM_of N4' L3 (fun k h1 h2 => L1 k (by omega) (by omega)) (fun a h1 h2 => k4 a (by omega) (by omega)) (k5 7 (by omega) (by omega) (by omega)), by rw [k5 22 (by omega) (by omega) (by omega), L5]; exact N5'⟩, fun a ha => by rw [k4 a (by omega) (by omega), j3 a (by omega) (by omega) (by omega), f1.1 a ha], fun k hk9 => by rw [k5 k (by omega) (by omega) (by omega), j4 k (by omega) (by omega), f1.2 k hk9]⟩
end Recv84
