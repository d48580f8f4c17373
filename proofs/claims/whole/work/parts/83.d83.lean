-- a sound packet: the class
section Recv83
variable {S T : St9} {z z' : Nat → Nat → Int32} {w : Nat → Option Nat} {f c s n data p t : Nat} {P : Nat → Nat}
theorem cE_of (h : cE S z) (hk : ∀ k, k ≠ 3 → k < 15 → T k = S k) (h3 : ∀ k, k < 5 ∨ k = 11 → T 3 k = S 3 k) (hz : ∀ a, a < 10 ∨ (20 ≤ a ∧ a ≤ 27) → z' a = z a) : cE T z' := by
  obtain ⟨E1, E2, E3, E4, E5, E6⟩ := h
  refine ⟨fun i hi => ?_, ?_, ?_, ?_, ?_, ?_⟩
  · rw [hz (2 + i) (by omega), hk 0 (by omega) (by omega), hk 1 (by omega) (by omega), hk 2 (by omega) (by omega)]; exact E1 i hi
  · rw [hz 0 (by omega), h3 3 (by omega)]; exact E2
  · rw [hz 0 (by omega), h3 4 (by omega)]; exact E3
  · rw [cn_of (h3 2 (by omega))]
    exact OB_S E4 (h3 2 (by omega)) (h3 11 (by omega)) (fun k h1 h2 => hk k (by omega) (by omega)) (fun a h1 h2 => hz a (by omega))
  · rw [hz 20 (by omega)]; exact E5
  · rw [hz 27 (by omega)]; exact E6
theorem mE_of (h : mE S z) (hk : ∀ k, k ≠ 3 → k < 15 → T k = S k) (h3 : ∀ k, k < 5 ∨ k = 11 → T 3 k = S 3 k) (hz : ∀ a, 53 ≤ a ∧ a ≤ 67 → a ≠ 60 → a ≠ 61 → a ≠ 62 → z' a = z a) (h52 : ∀ k, 19 ≤ k → k ≤ 21 → z' 52 k = z 52 k) : mE T z' := by
  obtain ⟨E1, E2, E3, E4⟩ := h
  refine ⟨fun i hi => ?_, ?_, ?_, ?_⟩
  · rw [hz 53 (by omega) (by omega) (by omega) (by omega), hz 54 (by omega) (by omega) (by omega) (by omega), hz 55 (by omega) (by omega) (by omega) (by omega), hk 0 (by omega) (by omega), hk 1 (by omega) (by omega), hk 2 (by omega) (by omega)]; exact E1 i hi
  · rw [h52 20 (by omega) (by omega), h3 3 (by omega)]; exact E2
  · rw [h52 21 (by omega) (by omega), h3 4 (by omega)]; exact E3
  · exact OM_S E4 (h3 2 (by omega)) (h3 11 (by omega)) (fun k h1 h2 => hk k (by omega) (by omega)) (fun a h1 h2 => hz a (by omega) (by omega) (by omega) (by omega)) (h52 19 (by omega) (by omega))
theorem wE_of (h : wE S) (hk : ∀ k, k ≠ 3 → k < 15 → T k = S k) (h3 : ∀ k, k < 5 ∨ k = 11 → T 3 k = S 3 k) : wE T := by
  unfold wE ow wfn at *
  rw [hk 1 (by omega) (by omega), hk 2 (by omega) (by omega), hk 9 (by omega) (by omega), hk 10 (by omega) (by omega), h3 2 (by omega), h3 3 (by omega), h3 4 (by omega), h3 11 (by omega), cn_of (h3 2 (by omega)), cn_of (h3 3 (by omega)), cn_of (h3 4 (by omega)), cn_of (h3 11 (by omega))]
  exact h
theorem rtC_of (h : rtC S z) (h0 : T 3 0 = S 3 0) (hk : ∀ k, 4 ≤ k → k ≤ 7 → T k = S k) (hz : ∀ a, 10 ≤ a → a ≤ 14 → z' a = z a) : rtC T z' := by
  unfold rtC at *
  rw [hz 10 (by omega) (by omega), hz 11 (by omega) (by omega), hz 12 (by omega) (by omega), hz 13 (by omega) (by omega), hz 14 (by omega) (by omega), cn_of h0, hk 4 (by omega) (by omega), hk 5 (by omega) (by omega), hk 6 (by omega) (by omega), hk 7 (by omega) (by omega)]
  exact h
theorem rtM_of (h : rtM S z) (h0 : T 3 0 = S 3 0) (hk : ∀ k, 4 ≤ k → k ≤ 7 → T k = S k) (hz : ∀ a, 56 ≤ a → a ≤ 59 → z' a = z a) (h52 : z' 52 7 = z 52 7) : rtM T z' := by
  unfold rtM at *
  rw [h52, hz 56 (by omega) (by omega), hz 57 (by omega) (by omega), hz 58 (by omega) (by omega), hz 59 (by omega) (by omega), cn_of h0, hk 4 (by omega) (by omega), hk 5 (by omega) (by omega), hk 6 (by omega) (by omega), hk 7 (by omega) (by omega)]
  exact h
theorem wC_of (h : wC S z w) (h10 : T 3 10 = S 3 10) (hk : ∀ k, 15 ≤ k → T k = S k) (hz : ∀ a, 28 ≤ a ∧ a < 50 ∨ a = 18 → z' a = z a) : wC T z' w := by
  obtain ⟨h1, h2, h3, h4⟩ := h
  refine ⟨rcW_of h1 hk (cn_of h10) (fun a ha hb => hz a (by omega)), by rw [hz 28 (by omega), cn_of h10]; exact h2, fun j hj => ?_, by rw [hz 18 (by omega)]; exact h4⟩
  rw [hz _ (by omega), hz _ (by omega)]; exact h3 j hj
theorem wM_of (h : wM S z) (h10 : T 3 10 = S 3 10) (hk : ∀ k, 15 ≤ k → T k = S k) (hz : ∀ a, 69 ≤ a → a ≤ 81 → z' a = z a) (h52 : z' 52 28 = z 52 28) : wM T z' := by
  refine ⟨fun e he => ?_, by rw [h52, cn_of h10]; exact h.2⟩
  rw [cn_of h10] at he
  have := h.1 e he
  unfold eMz at *
  rw [hk (15 + e) (by omega), hz 69 (by omega) (by omega), hz 70 (by omega) (by omega), hz 71 (by omega) (by omega), hz 72 (by omega) (by omega), hz 73 (by omega) (by omega), hz 74 (by omega) (by omega), hz 75 (by omega) (by omega), hz 76 (by omega) (by omega), hz 77 (by omega) (by omega), hz 78 (by omega) (by omega), hz 79 (by omega) (by omega), hz 80 (by omega) (by omega), hz 81 (by omega) (by omega)]
  exact this
theorem wX_of (h : wX S) (h10 : T 3 10 = S 3 10) (hk : ∀ k, 15 ≤ k → T k = S k) : wX T := by
  unfold wX at *
  rw [cn_of h10]
  exact ⟨h.1, fun e he => by rw [hk (15 + e) (by omega)]; exact h.2 e he⟩
-- the class and the reference, but for the tape
def kC (S : St9) (z : Nat → Nat → Int32) (w : Nat → Option Nat) : Prop := cE S z ∧ dC S z ∧ wC S z w ∧ rtC S z ∧ z 0 10 = S 3 5 ∧ ∀ i, br (z 16 i)
def kM (S : St9) (z : Nat → Nat → Int32) : Prop := mE S z ∧ dM S z ∧ wM S z ∧ rtM S z ∧ z 52 22 = S 3 5
def sdT (S : St9) (p : Nat) (P : Nat → Nat) (data t : Nat) : St9 × Int32 := match wo P with
  | some u => (erS S p P (q8N data) 12 0 (u * 16777216), 7)
  | none => if ownB S (nI (n4 P 16)) = true then (if n2 P 6 % 16384 = 0 then owS S p P data else match (jnS S P p data t).2 with
    | none => ((jnS S P p data t).1, 10)
    | some E => owS (jnS S P p data t).1 p (whB E) (er E)) else snS S p P data
-- what the outcomes leave alone: all but the outs, tokens, replies, what is delivered
def lvS (S T : St9) : Prop := (∀ k, k ≠ 3 → k < 9 → T k = S k) ∧ (∀ k, 15 ≤ k → T k = S k) ∧ T 3 0 = S 3 0 ∧ T 3 1 = S 3 1 ∧ T 3 5 = S 3 5 ∧ T 3 10 = S 3 10
theorem lv_er {q ty co re : Nat} (hW : wE S) (hp : p < 8) (hq9 : q ≤ 8) (h2 : cn S 2 < 50) (h11 : cn S 11 ≤ 4800) : lvS S (erS S p P q ty co re) := by
  have hk := erS_k (S := S) (p := p) (P := P) (q := q) (ty := ty) (co := co) (re := re) hW hp hq9 h2 h11
  exact ⟨fun k h3 hk9 => hk.1 k h3 (by omega), fun k hk15 => hk.1 k (by omega) (by omega), hk.2.1 0 (by omega) (by omega) (by omega) (by omega), hk.2.1 1 (by omega) (by omega) (by omega) (by omega), hk.2.1 5 (by omega) (by omega) (by omega) (by omega), hk.2.1 10 (by omega) (by omega) (by omega) (by omega)⟩
theorem lv_ow (hW : wE S) (hp : p < 8) (hd : data ≤ 4000) (h2 : cn S 2 = 0) (h11 : cn S 11 = 0) : lvS S (owS S p P data).1 := by
  unfold owS
  split
  · exact ⟨fun k h3 hk => dlv_k h3 (by omega), fun k hk => dlv_k (by omega) (by omega), dlv_3 (S := S) (P := P) (data := data) (k := 0) (by omega), dlv_3 (S := S) (P := P) (data := data) (k := 1) (by omega), dlv_3 (S := S) (P := P) (data := data) (k := 5) (by omega), dlv_3 (S := S) (P := P) (data := data) (k := 10) (by omega)⟩
  · split
    · exact lv_er hW hp (by split <;> omega) (by omega) (by omega)
    · split
      · have hk := anS_k (S := S) (p := p) (P := P) (data := data) hW hp hd h2 h11
        exact ⟨fun k h3 hk9 => hk.1 k h3 (by omega), fun k hk15 => hk.1 k (by omega) (by omega), hk.2.1 0 (by omega) (by omega) (by omega), hk.2.1 1 (by omega) (by omega) (by omega), hk.2.1 5 (by omega) (by omega) (by omega), hk.2.1 10 (by omega) (by omega) (by omega)⟩
      · exact ⟨fun _ _ _ => rfl, fun _ _ => rfl, rfl, rfl, rfl, rfl⟩
theorem sn_o (hW : wE S) (hRW : rtW S) (h0 : 20 ≤ hl P) (hMq : hl P + data ≤ 2000) (h2 : cn S 2 = 0) (h11 : cn S 11 = 0) (h5 : ¬ lgS S (nI (n4 P 16)) = -1) : ∀ next : Int32, (∀ k, k ≠ 3 → k < 9 ∨ 13 < k → sdS S (b1 P 8 (P 8 - 1)) data (mtN S (wyN S (nI (n4 P 16)))) (nI (wyN S (nI (n4 P 16)))) next k = S k) ∧ (∀ k, k ≠ 2 → k ≠ 11 → sdS S (b1 P 8 (P 8 - 1)) data (mtN S (wyN S (nI (n4 P 16)))) (nI (wyN S (nI (n4 P 16)))) next 3 k = S 3 k) ∧ ow (sdS S (b1 P 8 (P 8 - 1)) data (mtN S (wyN S (nI (n4 P 16)))) (nI (wyN S (nI (n4 P 16)))) next) := by
  intro next
  have r3 := wy_lt hRW h5
  have hmt := mtN_e hW r3
  have hlb : hl (b1 P 8 (P 8 - 1)) = hl P := rfl
  obtain ⟨-, o1, o2, o3, o4⟩ := sdS_all (S := S) (P := b1 P 8 (P 8 - 1)) (data := data) (m := mtN S (wyN S (nI (n4 P 16)))) (way := nI (wyN S (nI (n4 P 16)))) (next := next) (by rw [hlb, h2, h11]; exact cap_t h0 hmt.2.1 (by omega)) hW.2.2.2 (by rw [hlb]; exact h0) hmt.2.1 hmt.2.2
  exact ⟨o3, o4, o1⟩
theorem lv_sn (hW : wE S) (hRW : rtW S) (hp : p < 8) (h0 : 20 ≤ hl P) (hMq : hl P + data ≤ 2000) (h2 : cn S 2 = 0) (h11 : cn S 11 = 0) : lvS S (snS S p P data).1 := by
  have q9 : q8N data ≤ 8 := by unfold q8N; split <;> omega
  unfold snS
  split
  · exact ⟨fun _ _ _ => rfl, fun _ _ => rfl, rfl, rfl, rfl, rfl⟩
  · split
    · exact lv_er hW hp q9 (by omega) (by omega)
    · split
      · exact lv_er hW hp q9 (by omega) (by omega)
      · rename_i h5
        split
        · exact lv_er hW hp q9 (by omega) (by omega)
        · split
          · exact lv_er hW hp q9 (by omega) (by omega)
          · have hk := sn_o (P := P) (data := data) hW hRW h0 hMq h2 h11 h5 (if S 7 (rtN S (nI (n4 P 16))) = 0 then nI (n4 P 16) else S 7 (rtN S (nI (n4 P 16))))
            exact ⟨fun k h3 hk9 => hk.1 k h3 (by omega), fun k hk15 => hk.1 k (by omega) (by omega), hk.2.1 0 (by omega) (by omega), hk.2.1 1 (by omega) (by omega), hk.2.1 5 (by omega) (by omega), hk.2.1 10 (by omega) (by omega)⟩
theorem n65 (hK : kC S z w) (hW : wE S) (hRW : rtW S) (hX : wX S) (hR : rdP z n P data) (hcut : n2 P 6 % 8192 * 8 + data ≤ 65535) (h2 : cn S 2 = 0) (h11 : cn S 11 = 0) (h5 : S 3 5 = nI t) (ht : t ≤ 60000) (hp : p < 8) (hf : 40000 < f) : ∃ z' w', F_65 f 0 (nI p) (hq z w c s) = some (.inl (some (.int (sdT S p P data t).2)), hq z' w' c s) ∧ kC (sdT S p P data t).1 z' w' ∧ ∀ a, 51 < a → z' a = z a := by
  obtain ⟨K1, K2, K3, K4, K5, K6⟩ := hK
  have hR' := hR
  obtain ⟨hP, hn, hr16, h0, hdt, hMq⟩ := hR
  have hl6 := hl_le P
  have q21 := n21 (f := f) (w := w) (c := c) (s := s) pk_t hP hr16 hn (by omega) h0 (by omega) (by omega)
  have q19 := n19 (f := f) (w := w) (c := c) (s := s) pk_t hP hn (by omega) (by omega)
  have q66 := n66 (f := f) (w := w) (c := c) (s := s) (x := nI (n4 P 16)) (fun i hi => (K1.1 i hi).1) (by omega)
  have q8le : q8N data ≤ 8 := by unfold q8N; split <;> omega
  unfold sdT
  cases hwo : wo P with
  | some u =>
    rw [hwo] at q21
    dsimp only
    have hu : u < 256 := by
      have : ∀ (g t : Nat), woN P (hl P) g t = some u → u < hl P := by
        intro g
        induction g with
        | zero => intro t h; cases h
        | succ g ih =>
          intro t h
          unfold woN at h
          by_cases h1 : hl P ≤ t ∨ P t = 0
          · rw [if_pos h1] at h; cases h
          · rw [if_neg h1] at h
            by_cases h2 : opz P t (hl P) = 0
            · rw [if_pos h2] at h; cases h; omega
            · rw [if_neg h2] at h; exact ih _ h
      have := this 100 20 hwo
      omega
    have ne1 : ¬ nI u = -1 := by
      intro h
      have h9 : (nI u).toInt = (-1 : Int32).toInt := by rw [h]
      rw [nI_toInt (by omega), show (-1 : Int32).toInt = -1 from rfl] at h9
      omega
    obtain ⟨z1, g1, g2, g3, g4⟩ := n69 (f := f) (w := w) (c := c) (s := s) (q := q8N data) (ty := 12) (co := 0) (re := u * 16777216) K1 hW hp pk_t hP hr16 hn (by omega) (by omega) h0 (by omega) (by unfold q8N; rw [show n2 P 2 - hl P = data by omega]) (by unfold q8N; split <;> omega) (by omega) (by omega) (by omega) (by omega) (by omega) (by omega)
    have g1' : F_69 f 0 15 (nI p) 12 0 (nI (u * 16777216)) (hq z w c s) = some (.inl none, hq z1 w c s) := g1
    obtain ⟨L1, L2, L3, L4, L5, L6⟩ := lv_er (S := S) (p := p) (P := P) (q := q8N data) (ty := 12) (co := 0) (re := u * 16777216) hW hp q8le (by omega) (by omega)
    have hk := erS_k (S := S) (p := p) (P := P) (q := q8N data) (ty := 12) (co := 0) (re := u * 16777216) hW hp q8le (by omega) (by omega)
    have sh : nI u <<< ((24 : Int32) &&& 31) = nI (u * 16777216) := by rw [c24]; exact (nI_shl u).2.2
    refine ⟨z1, w, ?_, ⟨g2, dC_of K2 (fun k h1 h2 => hk.2.1 k (by omega) (by omega) (by omega) (by omega)) (hk.1 14 (by omega) (by omega)) (g3 50 (by omega) (by omega)) (g3 51 (by omega) (by omega)), wC_of K3 L6 L2 (fun a ha => g3 a (by omega) (by omega)), rtC_of K4 L3 (fun k h1 h2 => L1 k (by omega) (by omega)) (fun a h1 h2 => g3 a (by omega) (by omega)), by rw [g4 10 (by omega) (by omega), L5]; exact K5, by rw [g3 16 (by omega) (by omega)]; exact K6⟩, fun a ha => g3 a (by omega) (by omega)⟩
    simp only [F_65, q21, woI, ne1, sh, g1', dg_1, db_1, db_0, dl_1, dp_1, dv_1, dv_x, di_1, di_x, dw_1, ec_eq, ec_ne, ec_lt, ec_ge, ec_gt, ec_le, hq_z, hq_wz, hq_wc, hq_thr, hq_p29, hq_pw, eq_self, decide_true, decide_false, not_true_eq_false, not_false_eq_true, kq_0, kq_1, kq_2, kq_3, kq_4, kq_5, kq_6, kq_7, kq_8, kq_9, kq_10, kq_11, kq_12, kq_13, kq_14, kq_15, kq_16, kq_17, kq_18, kq_19, kq_20, kq_21, kq_22, kq_23, kq_24, kq_25, kq_26, kq_27, kq_28, kq_29, kq_30, kq_31, kq_32, kq_33, kq_34, kq_35, kq_36, kq_37, kq_38, kq_39, kq_40, kq_41, kq_42, kq_43, kq_44, kq_45, kq_46, kq_47, kq_48, kq_49, kq_50, kq_51, kq_52, kq_53, kq_54, kq_55, kq_56, kq_57, kq_58, kq_59, kq_60, kq_61, kq_62, kq_63, kq_64, kq_65, kq_66, kq_67, kq_68, kq_69, kq_70, kq_71, kq_72, kq_73, kq_74, kq_75, kq_76, kq_77, kq_78, kq_79, kq_80, kq_81, pq_0_0, pq_0_1, pq_0_2, pq_0_3, pq_0_4, pq_0_5, pq_0_6, pq_0_7, pq_1_0, pq_1_1, pq_1_2, pq_1_3, pq_1_4, pq_1_5, pq_1_6, pq_1_7, pq_10_0, pq_10_1, pq_10_2, pq_10_3, pq_15_0, pq_17_0, pq_19_0, pq_21_0, pq_21_1, pq_21_2, pq_21_3, pq_21_4, pq_21_5, pq_28_0, pq_30_0, pq_30_1, pq_30_2, pq_31_0, pq_35_0, pq_35_1, pq_35_2, pq_36_0, pq_40_0, pq_40_1, pq_40_2, pq_41_0, pq_45_0, pq_45_1, pq_45_2, pq_46_0, pq_50_0, pq_52_0, pq_52_1, pq_52_2, pq_52_3, pq_52_4, pq_52_5, pq_52_6, pq_52_8, pq_52_10, pq_52_11, pq_52_14, pq_52_15, pq_52_16, pq_52_17, pq_52_18, pq_52_27, pq_52_29, pq_52_30, pq_52_31, pq_52_32, pq_52_33, pq_52_34, pq_52_35, pq_52_36, pq_52_37, pq_52_38, pq_52_39, pq_52_40, pq_52_41, aq_1, aq_11, aq_12, aq_13, aq_14, aq_16, aq_18, aq_20, aq_22, aq_23, aq_24, aq_25, aq_26, aq_27, aq_29, aq_32, aq_33, aq_34, aq_37, aq_38, aq_39, aq_42, aq_43, aq_44, aq_47, aq_48, aq_49, aq_51, aq_53, aq_54, aq_55, aq_56, aq_57, aq_58, aq_59, aq_60, aq_61, aq_62, aq_63, aq_64, aq_65, aq_66, aq_67, aq_68, aq_69, aq_70, aq_71, aq_72, aq_73, aq_74, aq_75, aq_76, aq_77, aq_78, aq_79, aq_80, aq_81]
  | none =>
    rw [hwo] at q21
    dsimp only
    by_cases hown : ownB S (nI (n4 P 16)) = true
    case neg =>
      rw [if_neg hown]
      have hb : ownB S (nI (n4 P 16)) = false := by
        cases h : ownB S (nI (n4 P 16))
        · rfl
        · exact absurd h hown
      rw [hb] at q66
      obtain ⟨z1, g1, g2, g3, g4, g5⟩ := n68 (f := f) (w := w) (c := c) (s := s) K1 hW K4 hRW hp hP hn hr16 h0 hdt hMq hwo hcut h2 h11 (by omega)
      obtain ⟨L1, L2, L3, L4, L5, L6⟩ := lv_sn (P := P) (data := data) hW hRW hp h0 (by omega) h2 h11
      have hdd : (∀ k, 6 ≤ k → k ≤ 9 → (snS S p P data).1 3 k = S 3 k) ∧ (snS S p P data).1 14 = S 14 := by
        unfold snS
        split
        · exact ⟨fun _ _ _ => rfl, rfl⟩
        · split
          · have hk := erS_k (S := S) (p := p) (P := P) (q := q8N data) (ty := 11) (co := 0) (re := 0) hW hp q8le (by omega) (by omega)
            exact ⟨fun k h1 h2 => hk.2.1 k (by omega) (by omega) (by omega) (by omega), hk.1 14 (by omega) (by omega)⟩
          · split
            · have hk := erS_k (S := S) (p := p) (P := P) (q := q8N data) (ty := 3) (co := 0) (re := 0) hW hp q8le (by omega) (by omega)
              exact ⟨fun k h1 h2 => hk.2.1 k (by omega) (by omega) (by omega) (by omega), hk.1 14 (by omega) (by omega)⟩
            · rename_i h5'
              split
              · have hk := erS_k (S := S) (p := p) (P := P) (q := q8N data) (ty := 3) (co := 1) (re := 0) hW hp q8le (by omega) (by omega)
                exact ⟨fun k h1 h2 => hk.2.1 k (by omega) (by omega) (by omega) (by omega), hk.1 14 (by omega) (by omega)⟩
              · split
                · have hk := erS_k (S := S) (p := p) (P := P) (q := q8N data) (ty := 3) (co := 4) (re := mtN S (wyN S (nI (n4 P 16)))) hW hp q8le (by omega) (by omega)
                  exact ⟨fun k h1 h2 => hk.2.1 k (by omega) (by omega) (by omega) (by omega), hk.1 14 (by omega) (by omega)⟩
                · have hk := sn_o (P := P) (data := data) hW hRW h0 (by omega) h2 h11 h5' (if S 7 (rtN S (nI (n4 P 16))) = 0 then nI (n4 P 16) else S 7 (rtN S (nI (n4 P 16))))
                  exact ⟨fun k h1 h2 => hk.2.1 k (by omega) (by omega), hk.1 14 (by omega) (by omega)⟩
      refine ⟨z1, w, ?_, ⟨g2, dC_of K2 hdd.1 hdd.2 (g3 50 (by omega) (by omega) (by omega)) (g3 51 (by omega) (by omega) (by omega)), wC_of K3 L6 L2 (fun a ha => g3 a (by omega) (by omega) (by omega)), rtC_of K4 L3 (fun k h1 h2 => L1 k (by omega) (by omega)) (fun a h1 h2 => g3 a (by omega) (by omega) (by omega)), by rw [g4 10 (by omega) (by omega), L5]; exact K5, g5⟩, fun a ha => g3 a (by omega) (by omega) (by omega)⟩
      simp only [F_65, B_65_59, q21, woI, q19, q66, bI, g1, dg_1, db_1, db_0, dl_1, dp_1, dv_1, dv_x, di_1, di_x, dw_1, ec_eq, ec_ne, ec_lt, ec_ge, ec_gt, ec_le, hq_z, hq_wz, hq_wc, hq_thr, hq_p29, hq_pw, eq_self, decide_true, decide_false, not_true_eq_false, not_false_eq_true, kq_0, kq_1, kq_2, kq_3, kq_4, kq_5, kq_6, kq_7, kq_8, kq_9, kq_10, kq_11, kq_12, kq_13, kq_14, kq_15, kq_16, kq_17, kq_18, kq_19, kq_20, kq_21, kq_22, kq_23, kq_24, kq_25, kq_26, kq_27, kq_28, kq_29, kq_30, kq_31, kq_32, kq_33, kq_34, kq_35, kq_36, kq_37, kq_38, kq_39, kq_40, kq_41, kq_42, kq_43, kq_44, kq_45, kq_46, kq_47, kq_48, kq_49, kq_50, kq_51, kq_52, kq_53, kq_54, kq_55, kq_56, kq_57, kq_58, kq_59, kq_60, kq_61, kq_62, kq_63, kq_64, kq_65, kq_66, kq_67, kq_68, kq_69, kq_70, kq_71, kq_72, kq_73, kq_74, kq_75, kq_76, kq_77, kq_78, kq_79, kq_80, kq_81, pq_0_0, pq_0_1, pq_0_2, pq_0_3, pq_0_4, pq_0_5, pq_0_6, pq_0_7, pq_1_0, pq_1_1, pq_1_2, pq_1_3, pq_1_4, pq_1_5, pq_1_6, pq_1_7, pq_10_0, pq_10_1, pq_10_2, pq_10_3, pq_15_0, pq_17_0, pq_19_0, pq_21_0, pq_21_1, pq_21_2, pq_21_3, pq_21_4, pq_21_5, pq_28_0, pq_30_0, pq_30_1, pq_30_2, pq_31_0, pq_35_0, pq_35_1, pq_35_2, pq_36_0, pq_40_0, pq_40_1, pq_40_2, pq_41_0, pq_45_0, pq_45_1, pq_45_2, pq_46_0, pq_50_0, pq_52_0, pq_52_1, pq_52_2, pq_52_3, pq_52_4, pq_52_5, pq_52_6, pq_52_8, pq_52_10, pq_52_11, pq_52_14, pq_52_15, pq_52_16, pq_52_17, pq_52_18, pq_52_27, pq_52_29, pq_52_30, pq_52_31, pq_52_32, pq_52_33, pq_52_34, pq_52_35, pq_52_36, pq_52_37, pq_52_38, pq_52_39, pq_52_40, pq_52_41, aq_1, aq_11, aq_12, aq_13, aq_14, aq_16, aq_18, aq_20, aq_22, aq_23, aq_24, aq_25, aq_26, aq_27, aq_29, aq_32, aq_33, aq_34, aq_37, aq_38, aq_39, aq_42, aq_43, aq_44, aq_47, aq_48, aq_49, aq_51, aq_53, aq_54, aq_55, aq_56, aq_57, aq_58, aq_59, aq_60, aq_61, aq_62, aq_63, aq_64, aq_65, aq_66, aq_67, aq_68, aq_69, aq_70, aq_71, aq_72, aq_73, aq_74, aq_75, aq_76, aq_77, aq_78, aq_79, aq_80, aq_81]
      rfl
    rw [if_pos hown]
    rw [hown] at q66
    have q14 := n14 (f := f) (w := w) (c := c) (s := s) pk_t hP hn (by omega) (by omega)
    by_cases hpc : n2 P 6 % 16384 = 0
    · rw [if_pos hpc] at q14 ⊢
      obtain ⟨z1, g1, g2, g3, g4, g5⟩ := n67 (f := f) (w := w) (c := c) (s := s) K1 K2 hW hp pk_t hP hr16 hn (by omega) (by omega) h0 hdt hMq (by omega) h2 h11 (by omega)
      obtain ⟨L1, L2, L3, L4, L5, L6⟩ := lv_ow (P := P) (data := data) hW hp (by omega) h2 h11
      refine ⟨z1, w, ?_, ⟨g2, g3, wC_of K3 L6 L2 (fun a ha => g4 a (by omega) (by omega) (by omega) (by omega)), rtC_of K4 L3 (fun k h1 h2 => L1 k (by omega) (by omega)) (fun a h1 h2 => g4 a (by omega) (by omega) (by omega) (by omega)), by rw [g5 10 (by omega) (by omega), L5]; exact K5, by rw [g4 16 (by omega) (by omega) (by omega) (by omega)]; exact K6⟩, fun a ha => g4 a (by omega) (by omega) (by omega) (by omega)⟩
      simp only [F_65, B_65_59, F_67, q21, woI, q19, q66, bI, if_true, show ¬ (1 : Int32) = 0 by decide, q14, g1, dg_1, db_1, db_0, dl_1, dp_1, dv_1, dv_x, di_1, di_x, dw_1, ec_eq, ec_ne, ec_lt, ec_ge, ec_gt, ec_le, hq_z, hq_wz, hq_wc, hq_thr, hq_p29, hq_pw, eq_self, decide_true, decide_false, not_true_eq_false, not_false_eq_true, kq_0, kq_1, kq_2, kq_3, kq_4, kq_5, kq_6, kq_7, kq_8, kq_9, kq_10, kq_11, kq_12, kq_13, kq_14, kq_15, kq_16, kq_17, kq_18, kq_19, kq_20, kq_21, kq_22, kq_23, kq_24, kq_25, kq_26, kq_27, kq_28, kq_29, kq_30, kq_31, kq_32, kq_33, kq_34, kq_35, kq_36, kq_37, kq_38, kq_39, kq_40, kq_41, kq_42, kq_43, kq_44, kq_45, kq_46, kq_47, kq_48, kq_49, kq_50, kq_51, kq_52, kq_53, kq_54, kq_55, kq_56, kq_57, kq_58, kq_59, kq_60, kq_61, kq_62, kq_63, kq_64, kq_65, kq_66, kq_67, kq_68, kq_69, kq_70, kq_71, kq_72, kq_73, kq_74, kq_75, kq_76, kq_77, kq_78, kq_79, kq_80, kq_81, pq_0_0, pq_0_1, pq_0_2, pq_0_3, pq_0_4, pq_0_5, pq_0_6, pq_0_7, pq_1_0, pq_1_1, pq_1_2, pq_1_3, pq_1_4, pq_1_5, pq_1_6, pq_1_7, pq_10_0, pq_10_1, pq_10_2, pq_10_3, pq_15_0, pq_17_0, pq_19_0, pq_21_0, pq_21_1, pq_21_2, pq_21_3, pq_21_4, pq_21_5, pq_28_0, pq_30_0, pq_30_1, pq_30_2, pq_31_0, pq_35_0, pq_35_1, pq_35_2, pq_36_0, pq_40_0, pq_40_1, pq_40_2, pq_41_0, pq_45_0, pq_45_1, pq_45_2, pq_46_0, pq_50_0, pq_52_0, pq_52_1, pq_52_2, pq_52_3, pq_52_4, pq_52_5, pq_52_6, pq_52_8, pq_52_10, pq_52_11, pq_52_14, pq_52_15, pq_52_16, pq_52_17, pq_52_18, pq_52_27, pq_52_29, pq_52_30, pq_52_31, pq_52_32, pq_52_33, pq_52_34, pq_52_35, pq_52_36, pq_52_37, pq_52_38, pq_52_39, pq_52_40, pq_52_41, aq_1, aq_11, aq_12, aq_13, aq_14, aq_16, aq_18, aq_20, aq_22, aq_23, aq_24, aq_25, aq_26, aq_27, aq_29, aq_32, aq_33, aq_34, aq_37, aq_38, aq_39, aq_42, aq_43, aq_44, aq_47, aq_48, aq_49, aq_51, aq_53, aq_54, aq_55, aq_56, aq_57, aq_58, aq_59, aq_60, aq_61, aq_62, aq_63, aq_64, aq_65, aq_66, aq_67, aq_68, aq_69, aq_70, aq_71, aq_72, aq_73, aq_74, aq_75, aq_76, aq_77, aq_78, aq_79, aq_80, aq_81]
    · rw [if_neg hpc] at q14 ⊢
      have h010 : z 0 10 = nI t := K5.trans h5
      obtain ⟨z1, w1, j1, j2, j3, j4, j5⟩ := n40 (f := f) (c := c) (s := s) (t := t) K3 hX hR' hp hpc ht (by omega)
      obtain ⟨b1', b2⟩ := jnS_b (S := S) (P := P) (p := p) (data := data) (t := t)
      have K1' : cE (jnS S P p data t).1 z1 := cE_of K1 b1' (fun k hk => b2 k (by omega)) (fun a ha => j3 a (by omega) (by omega))
      have K2' : dC (jnS S P p data t).1 z1 := dC_of K2 (fun k h1 h2 => b2 k (by omega)) (b1' 14 (by omega) (by omega)) (j4 50 (by omega)) (j4 51 (by omega))
      have K4' : rtC (jnS S P p data t).1 z1 := rtC_of K4 (b2 0 (by omega)) (fun k h1 h2 => b1' k (by omega) (by omega)) (fun a h1 h2 => j3 a (by omega) (by omega))
      have K5' : z1 0 10 = (jnS S P p data t).1 3 5 := by rw [j3 0 (by omega) (by omega), b2 5 (by omega)]; exact K5
      have K6' : ∀ i, br (z1 16 i) := by rw [j3 16 (by omega) (by omega)]; exact K6
      cases hj : (jnS S P p data t).2 with
      | none =>
        rw [hj] at j1
        dsimp only
        refine ⟨z1, w1, ?_, ⟨K1', K2', j2, K4', K5', K6'⟩, fun a ha => j4 a (by omega)⟩
        simp only [F_65, B_65_59, F_67, q21, woI, q19, q66, bI, if_true, show ¬ (1 : Int32) = 0 by decide, q14, h010, j1, okI, dg_1, db_1, db_0, dl_1, dp_1, dv_1, dv_x, di_1, di_x, dw_1, ec_eq, ec_ne, ec_lt, ec_ge, ec_gt, ec_le, hq_z, hq_wz, hq_wc, hq_thr, hq_p29, hq_pw, eq_self, decide_true, decide_false, not_true_eq_false, not_false_eq_true, kq_0, kq_1, kq_2, kq_3, kq_4, kq_5, kq_6, kq_7, kq_8, kq_9, kq_10, kq_11, kq_12, kq_13, kq_14, kq_15, kq_16, kq_17, kq_18, kq_19, kq_20, kq_21, kq_22, kq_23, kq_24, kq_25, kq_26, kq_27, kq_28, kq_29, kq_30, kq_31, kq_32, kq_33, kq_34, kq_35, kq_36, kq_37, kq_38, kq_39, kq_40, kq_41, kq_42, kq_43, kq_44, kq_45, kq_46, kq_47, kq_48, kq_49, kq_50, kq_51, kq_52, kq_53, kq_54, kq_55, kq_56, kq_57, kq_58, kq_59, kq_60, kq_61, kq_62, kq_63, kq_64, kq_65, kq_66, kq_67, kq_68, kq_69, kq_70, kq_71, kq_72, kq_73, kq_74, kq_75, kq_76, kq_77, kq_78, kq_79, kq_80, kq_81, pq_0_0, pq_0_1, pq_0_2, pq_0_3, pq_0_4, pq_0_5, pq_0_6, pq_0_7, pq_1_0, pq_1_1, pq_1_2, pq_1_3, pq_1_4, pq_1_5, pq_1_6, pq_1_7, pq_10_0, pq_10_1, pq_10_2, pq_10_3, pq_15_0, pq_17_0, pq_19_0, pq_21_0, pq_21_1, pq_21_2, pq_21_3, pq_21_4, pq_21_5, pq_28_0, pq_30_0, pq_30_1, pq_30_2, pq_31_0, pq_35_0, pq_35_1, pq_35_2, pq_36_0, pq_40_0, pq_40_1, pq_40_2, pq_41_0, pq_45_0, pq_45_1, pq_45_2, pq_46_0, pq_50_0, pq_52_0, pq_52_1, pq_52_2, pq_52_3, pq_52_4, pq_52_5, pq_52_6, pq_52_8, pq_52_10, pq_52_11, pq_52_14, pq_52_15, pq_52_16, pq_52_17, pq_52_18, pq_52_27, pq_52_29, pq_52_30, pq_52_31, pq_52_32, pq_52_33, pq_52_34, pq_52_35, pq_52_36, pq_52_37, pq_52_38, pq_52_39, pq_52_40, pq_52_41, aq_1, aq_11, aq_12, aq_13, aq_14, aq_16, aq_18, aq_20, aq_22, aq_23, aq_24, aq_25, aq_26, aq_27, aq_29, aq_32, aq_33, aq_34, aq_37, aq_38, aq_39, aq_42, aq_43, aq_44, aq_47, aq_48, aq_49, aq_51, aq_53, aq_54, aq_55, aq_56, aq_57, aq_58, aq_59, aq_60, aq_61, aq_62, aq_63, aq_64, aq_65, aq_66, aq_67, aq_68, aq_69, aq_70, aq_71, aq_72, aq_73, aq_74, aq_75, aq_76, aq_77, aq_78, aq_79, aq_80, aq_81]
      | some E =>
        rw [hj] at j1
        dsimp only
        obtain ⟨hEW, hE7, hB⟩ := j5 E hj
        have hv1 := (hEW.2.2.2.2.2.2.2.2.2.1 hE7).2.1
        have her := hEW.2.2.2.1.2
        have hhl := wh_h E hv1
        have hW' : wE (jnS S P p data t).1 := wE_of hW b1' (fun k hk => b2 k (by omega))
        have c2' : cn (jnS S P p data t).1 2 = 0 := by rw [cn_of (b2 2 (by omega))]; exact h2
        have c11' : cn (jnS S P p data t).1 11 = 0 := by rw [cn_of (b2 11 (by omega))]; exact h11
        have hlq := hl_le (fq E)
        obtain ⟨z2, g1, g2, g3, g4, g5⟩ := n67 (f := f) (w := w1) (c := c) (s := s) (P := whB E) (data := er E) K1' K2' hW' hp pk_w hB j2.2.2.2 (by omega) (by omega) (by omega) (by rw [hhl]; exact hv1) (by rw [hhl]; exact wh_2 E her) (by rw [hhl]; omega) her c2' c11' (by omega)
        obtain ⟨L1, L2, L3, L4, L5, L6⟩ := lv_ow (P := whB E) (data := er E) hW' hp her c2' c11'
        refine ⟨z2, w1, ?_, ⟨g2, g3, wC_of j2 L6 L2 (fun a ha => g4 a (by omega) (by omega) (by omega) (by omega)), rtC_of K4' L3 (fun k h1 h2 => L1 k (by omega) (by omega)) (fun a h1 h2 => g4 a (by omega) (by omega) (by omega) (by omega)), by rw [g5 10 (by omega) (by omega), L5]; exact K5', by rw [g4 16 (by omega) (by omega) (by omega) (by omega)]; exact K6'⟩, fun a ha => by rw [g4 a (by omega) (by omega) (by omega) (by omega), j4 a (by omega)]⟩
        simp only [F_65, B_65_59, F_67, q21, woI, q19, q66, bI, if_true, show ¬ (1 : Int32) = 0 by decide, q14, h010, j1, okI, g1, dg_1, db_1, db_0, dl_1, dp_1, dv_1, dv_x, di_1, di_x, dw_1, ec_eq, ec_ne, ec_lt, ec_ge, ec_gt, ec_le, hq_z, hq_wz, hq_wc, hq_thr, hq_p29, hq_pw, eq_self, decide_true, decide_false, not_true_eq_false, not_false_eq_true, kq_0, kq_1, kq_2, kq_3, kq_4, kq_5, kq_6, kq_7, kq_8, kq_9, kq_10, kq_11, kq_12, kq_13, kq_14, kq_15, kq_16, kq_17, kq_18, kq_19, kq_20, kq_21, kq_22, kq_23, kq_24, kq_25, kq_26, kq_27, kq_28, kq_29, kq_30, kq_31, kq_32, kq_33, kq_34, kq_35, kq_36, kq_37, kq_38, kq_39, kq_40, kq_41, kq_42, kq_43, kq_44, kq_45, kq_46, kq_47, kq_48, kq_49, kq_50, kq_51, kq_52, kq_53, kq_54, kq_55, kq_56, kq_57, kq_58, kq_59, kq_60, kq_61, kq_62, kq_63, kq_64, kq_65, kq_66, kq_67, kq_68, kq_69, kq_70, kq_71, kq_72, kq_73, kq_74, kq_75, kq_76, kq_77, kq_78, kq_79, kq_80, kq_81, pq_0_0, pq_0_1, pq_0_2, pq_0_3, pq_0_4, pq_0_5, pq_0_6, pq_0_7, pq_1_0, pq_1_1, pq_1_2, pq_1_3, pq_1_4, pq_1_5, pq_1_6, pq_1_7, pq_10_0, pq_10_1, pq_10_2, pq_10_3, pq_15_0, pq_17_0, pq_19_0, pq_21_0, pq_21_1, pq_21_2, pq_21_3, pq_21_4, pq_21_5, pq_28_0, pq_30_0, pq_30_1, pq_30_2, pq_31_0, pq_35_0, pq_35_1, pq_35_2, pq_36_0, pq_40_0, pq_40_1, pq_40_2, pq_41_0, pq_45_0, pq_45_1, pq_45_2, pq_46_0, pq_50_0, pq_52_0, pq_52_1, pq_52_2, pq_52_3, pq_52_4, pq_52_5, pq_52_6, pq_52_8, pq_52_10, pq_52_11, pq_52_14, pq_52_15, pq_52_16, pq_52_17, pq_52_18, pq_52_27, pq_52_29, pq_52_30, pq_52_31, pq_52_32, pq_52_33, pq_52_34, pq_52_35, pq_52_36, pq_52_37, pq_52_38, pq_52_39, pq_52_40, pq_52_41, aq_1, aq_11, aq_12, aq_13, aq_14, aq_16, aq_18, aq_20, aq_22, aq_23, aq_24, aq_25, aq_26, aq_27, aq_29, aq_32, aq_33, aq_34, aq_37, aq_38, aq_39, aq_42, aq_43, aq_44, aq_47, aq_48, aq_49, aq_51, aq_53, aq_54, aq_55, aq_56, aq_57, aq_58, aq_59, aq_60, aq_61, aq_62, aq_63, aq_64, aq_65, aq_66, aq_67, aq_68, aq_69, aq_70, aq_71, aq_72, aq_73, aq_74, aq_75, aq_76, aq_77, aq_78, aq_79, aq_80, aq_81]
end Recv83
