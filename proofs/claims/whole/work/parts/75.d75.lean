-- waits: what a piece makes of an entry
section Wait75
def nwE (P : Nat → Nat) (t : Nat) : Nat → Int32 := fun k => if k = 0 then nI (n4 P 12) else if k = 1 then nI (n4 P 16) else if k = 2 then nI (n2 P 4) else if k = 3 then nI (P 9) else if k = 4 then nI t else 0
def nwS (S : St9) (P : Nat → Nat) (t : Nat) : St9 := fun k => if k = 3 then upd (S 3) 10 (nI (cn S 10 + 1)) else if k = 15 + cn S 10 then nwE P t else S k
def adE (E : Nat → Int32) (P : Nat → Nat) (p data : Nat) : Nat → Int32 := fun k =>
  if k < 5 then E k else if k = 5 then nI (if er E < stN P + data then stN P + data else er E) else if k = 6 then (if moN P = 0 then 1 else E 6) else if k = 7 then (if stN P = 0 then 1 else E 7) else if k = 8 then (if stN P = 0 then nI p else E 8) else
  if k < 1000 then (if stN P = 0 then nI (P (k - 100)) else E k) else if k < 6000 then (if stN P ≤ k - 1000 ∧ k - 1000 < stN P + data then nI (P (hl P + (k - 1000 - stN P))) else E k) else (if stN P / 8 ≤ k - 6000 ∧ 8 * (k - 6000) < stN P + data then 1 else E k)
variable {E : Nat → Int32} {P : Nat → Nat} {p data t : Nat} {S : St9}
theorem nw_0 : nwE P t 0 = nI (n4 P 12) := rfl
theorem nw_1 : nwE P t 1 = nI (n4 P 16) := rfl
theorem nw_2 : nwE P t 2 = nI (n2 P 4) := rfl
theorem nw_3 : nwE P t 3 = nI (P 9) := rfl
theorem nw_4 : nwE P t 4 = nI t := rfl
theorem nw_k {k : Nat} (h : 5 ≤ k) : nwE P t k = 0 := by unfold nwE; rw [if_neg (by omega), if_neg (by omega), if_neg (by omega), if_neg (by omega), if_neg (by omega)]
theorem adx_k {k : Nat} (h : k < 5) : adE E P p data k = E k := by unfold adE; rw [if_pos h]
theorem adx_5 : adE E P p data 5 = nI (if er E < stN P + data then stN P + data else er E) := by unfold adE; rw [if_neg (by omega), if_pos rfl]
theorem adx_6 : adE E P p data 6 = if moN P = 0 then 1 else E 6 := by unfold adE; rw [if_neg (by omega), if_neg (by omega), if_pos rfl]
theorem adx_7 : adE E P p data 7 = if stN P = 0 then 1 else E 7 := by unfold adE; rw [if_neg (by omega), if_neg (by omega), if_neg (by omega), if_pos rfl]
theorem adx_8 : adE E P p data 8 = if stN P = 0 then nI p else E 8 := by unfold adE; rw [if_neg (by omega), if_neg (by omega), if_neg (by omega), if_neg (by omega), if_pos rfl]
theorem adx_f {i : Nat} (h : i < 900) : adE E P p data (100 + i) = if stN P = 0 then nI (P i) else E (100 + i) := by
  unfold adE; rw [if_neg (by omega), if_neg (by omega), if_neg (by omega), if_neg (by omega), if_neg (by omega), if_pos (by omega), show 100 + i - 100 = i by omega]
theorem adx_b {i : Nat} (h : i < 5000) : adE E P p data (1000 + i) = if stN P ≤ i ∧ i < stN P + data then nI (P (hl P + (i - stN P))) else E (1000 + i) := by
  unfold adE; rw [if_neg (by omega), if_neg (by omega), if_neg (by omega), if_neg (by omega), if_neg (by omega), if_neg (by omega), if_pos (by omega), show 1000 + i - 1000 = i by omega]
theorem adx_u {i : Nat} : adE E P p data (6000 + i) = if stN P / 8 ≤ i ∧ 8 * i < stN P + data then 1 else E (6000 + i) := by
  unfold adE; rw [if_neg (by omega), if_neg (by omega), if_neg (by omega), if_neg (by omega), if_neg (by omega), if_neg (by omega), if_neg (by omega), show 6000 + i - 6000 = i by omega]
theorem adx_r (h : stN P + data ≤ 4000) (h2 : er E ≤ 4000) : er (adE E P p data) = if er E < stN P + data then stN P + data else er E := by
  show (adE E P p data 5).toNatClampNeg = _
  rw [adx_5, nI_clamp (by split <;> omega)]
theorem th_ad (hE : eW E) (hw : ¬ wrP P data) (hr : ¬ rfE E P data) {i : Nat} (hi : i < 4000) : thE (adE E P p data) i ↔ (thE E i ∨ (stN P ≤ i ∧ i < stN P + data)) := by
  obtain ⟨-, -, -, ⟨-, h5⟩, h6, -, h8, h9, -, -, -⟩ := hE
  have hst := st_8 P
  have hmo := mo_lt P
  have hu := h8 (i / 8) (by omega)
  unfold thE
  rw [adx_u, adx_r (by omega) h5]
  have hend : E 6 = 1 → stN P + data ≤ er E := fun h => by
    apply Classical.byContradiction
    intro h7; exact hr (Or.inl ⟨h, by omega⟩)
  have hlast : moN P = 0 → er E ≤ stN P + data := fun h => by
    apply Classical.byContradiction
    intro h7; exact hr (Or.inr ⟨h, by omega⟩)
  constructor
  · rintro ⟨g1, g2⟩
    by_cases h1 : stN P / 8 ≤ i / 8 ∧ 8 * (i / 8) < stN P + data
    · by_cases h2 : i < stN P + data
      · exact Or.inr ⟨by omega, h2⟩
      · exfalso
        by_cases h3 : moN P = 0
        · have := hlast h3
          split at g2 <;> omega
        · have : data % 8 = 0 := by
            apply Classical.byContradiction
            intro h4; exact hw (Or.inr (Or.inl ⟨by omega, h4⟩))
          omega
    · rw [if_neg h1] at g1
      refine Or.inl ⟨g1, ?_⟩
      apply Classical.byContradiction
      intro h2
      have h3 := hu.2 g1
      rcases h6 with h6 | h6
      · have := h9 h6; omega
      · have := hend h6
        rw [if_neg (by omega)] at g2; omega
  · rintro (⟨g1, g2⟩ | ⟨g1, g2⟩)
    · refine ⟨by split; rfl; exact g1, by split <;> omega⟩
    · refine ⟨by rw [if_pos (by omega)], by split <;> omega⟩
-- the units, counted
theorem uc_le (E : Nat → Int32) : ∀ k, uc E k ≤ k
  | 0 => Nat.le_refl _
  | k + 1 => by
    have := uc_le E k
    unfold uc; split <;> omega
theorem uc_z {E : Nat → Int32} : ∀ k, (∀ i, i < k → E (6000 + i) = 0) → uc E k = 0
  | 0, _ => rfl
  | k + 1, h => by
    unfold uc
    rw [uc_z k (fun i hi => h i (by omega)), h k (by omega), if_neg (by decide)]
theorem uc_c {E G : Nat → Int32} : ∀ k, (∀ i, i < k → E (6000 + i) = G (6000 + i)) → uc E k = uc G k
  | 0, _ => rfl
  | k + 1, h => by
    unfold uc
    rw [uc_c k (fun i hi => h i (by omega)), h k (by omega)]
theorem uc_m {E : Nat → Int32} (m : Nat) : ∀ q, (∀ i, m ≤ i → i < m + q → ¬ E (6000 + i) = 1) → uc E (m + q) = uc E m
  | 0, _ => rfl
  | q + 1, h => by
    show uc E (m + q) + (if E (6000 + (m + q)) = 1 then 1 else 0) = _
    rw [if_neg (h (m + q) (by omega) (by omega)), uc_m m q (fun i h1 h2 => h i h1 (by omega))]; rfl
theorem uc_all {E : Nat → Int32} : ∀ m, uc E m = m ↔ ∀ i, i < m → E (6000 + i) = 1
  | 0 => ⟨fun _ i hi => by omega, fun _ => rfl⟩
  | m + 1 => by
    have ih := uc_all (E := E) m
    have hle := uc_le E m
    constructor
    · intro h i hi
      unfold uc at h
      by_cases h1 : E (6000 + m) = 1
      · rw [if_pos h1] at h
        by_cases h2 : i = m
        · rw [h2]; exact h1
        · exact ih.mp (by omega) i (by omega)
      · rw [if_neg h1] at h; omega
    · intro h
      unfold uc
      rw [if_pos (h m (by omega)), ih.mpr (fun i hi => h i (by omega))]
theorem uc_set {E : Nat → Int32} {u : Nat} : ∀ k, uc (fun t => if t = 6000 + u then 1 else E t) k = uc E k + (if u < k ∧ ¬ E (6000 + u) = 1 then 1 else 0)
  | 0 => by rw [if_neg (by omega)]; rfl
  | k + 1 => by
    have ih := uc_set (E := E) (u := u) k
    show uc (fun t => if t = 6000 + u then 1 else E t) k + (if (if 6000 + k = 6000 + u then (1 : Int32) else E (6000 + k)) = 1 then 1 else 0) = uc E k + (if E (6000 + k) = 1 then 1 else 0) + _
    rw [ih]
    by_cases h1 : k = u
    · subst h1
      rw [if_pos (show 6000 + k = 6000 + k from rfl), if_pos (show (1 : Int32) = 1 from rfl), if_neg (show ¬ (k < k ∧ ¬ E (6000 + k) = 1) by omega)]
      by_cases h2 : E (6000 + k) = 1
      · rw [if_pos h2, if_neg (fun h => h.2 h2)]
      · rw [if_neg h2, if_pos ⟨by omega, h2⟩]
    · rw [if_neg (show ¬ 6000 + k = 6000 + u by omega)]
      have e : (if u < k ∧ ¬ E (6000 + u) = 1 then 1 else 0 : Nat) = if u < k + 1 ∧ ¬ E (6000 + u) = 1 then 1 else 0 := by
        by_cases h2 : u < k ∧ ¬ E (6000 + u) = 1
        · rw [if_pos h2, if_pos ⟨by omega, h2.2⟩]
        · rw [if_neg h2, if_neg (fun h => h2 ⟨by omega, h.2⟩)]
      rw [e]; omega
-- complete
abbrev cpE (E : Nat → Int32) : Prop := E 6 = 1 ∧ er E ≤ uc E 500 * 8
theorem cp_all (hE : eW E) : er E ≤ uc E 500 * 8 ↔ ∀ i, i < er E → thE E i := by
  obtain ⟨-, -, -, ⟨-, h5⟩, -, -, h8, -, -, -, -⟩ := hE
  have hm := uc_m (E := E) ((er E + 7) / 8) (500 - (er E + 7) / 8) (fun i h1 h2 h3 => by
    have := (h8 i (by omega)).2 h3; omega)
  rw [show (er E + 7) / 8 + (500 - (er E + 7) / 8) = 500 by omega] at hm
  have hle := uc_le E ((er E + 7) / 8)
  have hall := uc_all (E := E) ((er E + 7) / 8)
  constructor
  · intro h i hi
    refine ⟨hall.mp (by omega) (i / 8) (by omega), hi⟩
  · intro h
    have : uc E ((er E + 7) / 8) = (er E + 7) / 8 := hall.mpr (fun i hi => by
      have := (h (8 * i) (by omega)).1
      rw [show 8 * i / 8 = i by omega] at this
      exact this)
    omega
theorem fq_c {E : Nat → Int32} {Q : Nat → Nat} {m : Nat} (hQ : ∀ i, Q i < 256) (h : ∀ i, i < m → E (100 + i) = nI (Q i)) : ∀ i, i < m → fq E i = Q i := fun i hi => by
  have := hQ i
  unfold fq; rw [h i hi, nI_clamp (by omega)]; omega
theorem hl_c {A B : Nat → Nat} (h : A 0 = B 0) : hl A = hl B := by unfold hl; rw [h]
theorem fq_lt (E : Nat → Int32) : ∀ i, fq E i < 256 := fun i => by unfold fq; omega
theorem fq_ad0 (hP : ∀ i, P i < 256) (h : stN P = 0) : ∀ i, i < 900 → fq (adE E P p data) i = P i := fq_c hP (fun i hi => by rw [adx_f hi, if_pos h])
theorem fq_ad1 (h : ¬ stN P = 0) : ∀ i, i < 900 → fq (adE E P p data) i = fq E i := fun i hi => by unfold fq; rw [adx_f hi, if_neg h]
theorem eW_ad (hE : eW E) (hP : ∀ i, P i < 256) (hp : p < 8) (h0 : 20 ≤ hl P) (hdt : n2 P 2 = hl P + data) (hpc : ¬ n2 P 6 % 16384 = 0) (hw : ¬ wrP P data) (hr : ¬ rfE E P data) : eW (adE E P p data) := by
  obtain ⟨w1, w2, w3, ⟨w4, w5⟩, w6, w7, w8, w9, wA, wB, wC⟩ := hE
  have hst := st_8 P
  have hmo := mo_lt P
  have hl6 := hl_le P
  have hend : E 6 = 1 → stN P + data ≤ er E := fun h => by
    apply Classical.byContradiction
    intro h7; exact hr (Or.inl ⟨h, by omega⟩)
  have hlast : moN P = 0 → er E ≤ stN P + data := fun h => by
    apply Classical.byContradiction
    intro h7; exact hr (Or.inr ⟨h, by omega⟩)
  have her := adx_r (E := E) (P := P) (p := p) (data := data) (by omega) w5
  refine ⟨by rw [adx_k (by omega)]; exact w1, by rw [adx_k (by omega)]; exact w2, by rw [adx_k (by omega)]; exact w3, ⟨?_, ?_⟩, ?_, ?_, fun i hi => ⟨?_, ?_⟩, ?_, ?_, ?_, fun i hi => ?_⟩
  · rw [her, adx_5]
  · rw [her]; split <;> omega
  · rw [adx_6]; split; exact dz_1; exact w6
  · rw [adx_7]; split; exact dz_1; exact w7
  · rw [adx_u]; split; exact dz_1; exact (w8 i hi).1
  · rw [adx_u, her]
    by_cases h1 : stN P / 8 ≤ i ∧ 8 * i < stN P + data
    · intro _; split <;> omega
    · rw [if_neg h1]; intro h2; have := (w8 i hi).2 h2; split <;> omega
  · rw [adx_6, her]
    by_cases h1 : moN P = 0
    · rw [if_pos h1]; intro h; exact absurd h (by decide)
    · rw [if_neg h1]; intro h
      have := w9 h
      have h2 : data % 8 = 0 := by
        apply Classical.byContradiction
        intro h4; exact hw (Or.inr (Or.inl ⟨by omega, h4⟩))
      split <;> omega
  · rw [show (6000 : Nat) = 6000 + 0 from rfl, adx_u, adx_7]
    by_cases h1 : stN P = 0
    · rw [if_pos h1]; intro _; rfl
    · rw [if_neg h1, if_neg (by omega)]; exact wA
  · intro h7
    by_cases h1 : stN P = 0
    · have hq := fq_ad0 (E := E) (p := p) (data := data) hP h1
      have hhl : hl (fq (adE E P p data)) = hl P := hl_c (hq 0 (by omega))
      refine ⟨⟨p, hp, by rw [adx_8, if_pos h1]⟩, by rw [hhl]; exact h0, ?_, fun i hi => ?_⟩
      · have e2 : n2 (fq (adE E P p data)) 2 = n2 P 2 := by unfold n2; rw [hq 2 (by omega), hq (2 + 1) (by omega)]
        rw [hhl, e2, hdt]
        have hm1 : moN P = 1 := by
          rw [st_e] at h1
          rw [mo_e]; omega
        have h2 : data % 8 = 0 := by
          apply Classical.byContradiction
          intro h4; exact hw (Or.inr (Or.inl ⟨hm1, h4⟩))
        have h3 : ¬ data = 0 := fun h => hw (Or.inl h)
        omega
      · rw [hhl] at hi
        rw [hq i (by omega), adx_f (by omega), if_pos h1]
    · rw [adx_7, if_neg h1] at h7
      obtain ⟨b1', b2, b3, b4⟩ := wB h7
      have hq := fq_ad1 (E := E) (p := p) (data := data) h1
      have hhl : hl (fq (adE E P p data)) = hl (fq E) := hl_c (hq 0 (by omega))
      have := hl_le (fq E)
      refine ⟨by rw [adx_8, if_neg h1]; exact b1', by rw [hhl]; exact b2, ?_, fun i hi => ?_⟩
      · have e2 : n2 (fq (adE E P p data)) 2 = n2 (fq E) 2 := by unfold n2; rw [hq 2 (by omega), hq (2 + 1) (by omega)]
        rw [hhl, e2]; exact b3
      · rw [hhl] at hi
        rw [hq i (by omega), adx_f (by omega), if_neg h1]; exact b4 i hi
  · rw [adx_b (by omega)]
    split
    · exact ⟨_, hP _, rfl⟩
    · exact wC i hi
theorem eW_nw (hP : ∀ i, P i < 256) (ht : t ≤ 60000) : eW (nwE P t) := by
  have h5 : er (nwE P t) = 0 := by show (nwE P t 5).toNatClampNeg = 0; rw [nw_k (by omega)]; rfl
  refine ⟨⟨_, n2_lt hP 4, nw_2⟩, ⟨_, hP 9, nw_3⟩, ⟨t, ht, nw_4⟩, ⟨by rw [h5, nw_k (by omega)]; rfl, by omega⟩, by rw [nw_k (by omega)]; exact dz_0, by rw [nw_k (by omega)]; exact dz_0, fun i hi => ⟨by rw [nw_k (by omega)]; exact dz_0, fun h => by rw [nw_k (by omega)] at h; exact absurd h (by decide)⟩, fun _ => by rw [h5], fun h => by rw [nw_k (by omega)] at h; exact absurd h (by decide), fun h => by rw [nw_k (by omega)] at h; exact absurd h (by decide), fun i hi => ⟨0, by omega, by rw [nw_k (by omega)]; rfl⟩⟩
theorem nwS_3 {k : Nat} (h : k ≠ 10) : nwS S P t 3 k = S 3 k := by show upd (S 3) 10 _ k = _; rw [pk_un h]
theorem nwS_10 : nwS S P t 3 10 = nI (cn S 10 + 1) := by show upd (S 3) 10 (nI (cn S 10 + 1)) 10 = _; exact pk_us
theorem nwS_c (h : cn S 10 < 4) : cn (nwS S P t) 10 = cn S 10 + 1 := by
  show (nwS S P t 3 10).toNatClampNeg = _
  rw [nwS_10, nI_clamp (by omega)]
theorem nwS_e : nwS S P t (15 + cn S 10) = nwE P t := by unfold nwS; rw [if_neg (by omega), if_pos rfl]
theorem nwS_k {k : Nat} (h3 : k ≠ 3) (h : k ≠ 15 + cn S 10) : nwS S P t k = S k := by unfold nwS; rw [if_neg h3, if_neg h]
end Wait75
