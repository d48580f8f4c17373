-- 21: RouteHouse$Packet.wrongOption()I
def B_21_45 (f : Nat) (h : hp_T) : Option ev_O := (some (.inl (some (.int (-1 : Int32))), h))
theorem sB_21_45 (f : Nat) (w0 : Value) (w1 : Value) (w2 : Value) (w3 : Value) (h : hp_T) (o : ev_O) (hB : B_21_45 f  h = some o) : rg 21 45 [w0, w1, w2, w3] [] h o := by
  unfold B_21_45 at hB
  refine rg_ic (v := (-1 : Int32)) rfl (by decide) ?_
  cases hB
  exact rg_ri rfl rfl rfl
def B_21_10 (f : Nat) : Nat → Nat → Int32 → Int32 → hp_T → Option ev_O
  | 0, _, _, _, _ => none
  | g + 1, l0, l1, l3, h => (db (ev_c .ge l3 l1) (B_21_45 f   h) (dg (decide (hp_k h l0 = some (2, 0))) (dp (hp_p h l0 0) fun r3 => (dg (aib 65 h r3 l3) (db (ev_c .eq (hp_z h r3 (Int32.toNatClampNeg l3)) 0) (B_21_45 f   h) (di (F_22 f l0 l3 l1 h) fun v10 h7 => (db (ev_c .ge v10 (1 : Int32)) ((B_21_10 f g) l0 l1 (l3 + v10) h7) (some (.inl (some (.int l3)), h7)))))))))
theorem sB_21_10 (f : Nat) : ∀ (g : Nat) (l0 : Nat) (l1 : Int32) (l3 : Int32) (w2 : Value) (h : hp_T) (o : ev_O), B_21_10 f g l0 l1 l3 h = some o → rg 21 10 [.ref l0, .int l1, w2, .int l3] [] h o := by
  intro g
  induction g with
  | zero =>
    intro l0 l1 l3 w2 h o hB
    rw [B_21_10] at hB
    cases hB
  | succ g ih =>
    intro l0 l1 l3 w2 h o hB
    rw [B_21_10] at hB
    refine rg_p rfl rfl ?_
    refine rg_p rfl rfl ?_
    rcases db_e hB with ⟨q1, hB⟩ | ⟨q1, hB⟩
    · refine rg_bt (t := 45) (pc' := 15) rfl rfl q1 ?_
      exact sB_21_45 f  _ _ _ _ h _ hB
    · refine rg_bf (t := 45) (pc' := 15) rfl rfl q1 ?_
      refine rg_p rfl rfl ?_
      obtain ⟨c2, hB⟩ := dg_e hB
      obtain ⟨r3, p4, hB⟩ := dp_e hB
      refine rg_gp rfl rfl rfl (of_decide_eq_true c2) p4 ?_
      refine rg_p rfl rfl ?_
      obtain ⟨c5, hB⟩ := dg_e hB
      refine rg_ba (t := 65) (by decide) rfl (ai_of c5) ?_
      rcases db_e hB with ⟨q6, hB⟩ | ⟨q6, hB⟩
      · refine rg_bt (t := 45) (pc' := 24) rfl rfl q6 ?_
        exact sB_21_45 f  _ _ _ _ h _ hB
      · refine rg_bf (t := 45) (pc' := 24) rfl rfl q6 ?_
        refine rg_p rfl rfl ?_
        refine rg_p rfl rfl ?_
        refine rg_p rfl rfl ?_
        rcases di_e hB with ⟨v10, h7, z8, hB⟩ | ⟨q9, h7, z8, hB⟩
        · refine rg_call (rg_v9 (n := 2) (b := l0) (as := [.ref l0, .int l3, .int l1]) (ar := []) rfl rfl rfl (Nat.le_of_ble_eq_true rfl) rfl rfl (Nat.le_of_ble_eq_true rfl) (of_decide_eq_true c2)) (sF_22 z8) ?_
          refine rg_p (L' := [.ref l0, .int l1, .int v10, .int l3]) rfl rfl ?_
          refine rg_p rfl rfl ?_
          refine rg_ic (v := (1 : Int32)) rfl (by decide) ?_
          rcases db_e hB with ⟨q11, hB⟩ | ⟨q11, hB⟩
          · refine rg_bt (t := 38) (pc' := 36) rfl rfl q11 ?_
            refine rg_p rfl rfl ?_
            refine rg_p rfl rfl ?_
            refine rg_p rfl rfl ?_
            refine rg_p (L' := [.ref l0, .int l1, .int v10, .int (l3 + v10)]) rfl rfl ?_
            refine rg_p (pc' := 10) rfl rfl ?_
            exact ih _ _ _ _ h7 _ hB
          · refine rg_bf (t := 38) (pc' := 36) rfl rfl q11 ?_
            refine rg_p rfl rfl ?_
            cases hB
            exact rg_ri rfl rfl rfl
        · subst hB
          exact rg_callX (rg_v9 (n := 2) (b := l0) (as := [.ref l0, .int l3, .int l1]) (ar := []) rfl rfl rfl (Nat.le_of_ble_eq_true rfl) rfl rfl (Nat.le_of_ble_eq_true rfl) (of_decide_eq_true c2)) (sF_22 z8)
def F_21 (f : Nat) (a0 : Nat) (h : hp_T) : Option ev_O := (dg (decide (hp_k h a0 = some (2, 0))) (di (F_8 f a0 h) fun v5 h2 => (B_21_10 f  f a0 v5 (20 : Int32) h2)))
theorem sF_21 {f : Nat} {a0 : Nat} {h : hp_T} {o : ev_O} (hB : F_21 f a0 h = some o) : rm 21 [.ref a0] h o := by
  unfold F_21 at hB
  refine rm_in (L := [.ref a0, .null, .null, .null]) (Nat.le_of_ble_eq_true rfl) rfl ?_
  refine rg_p rfl rfl ?_
  obtain ⟨c1, hB⟩ := dg_e hB
  rcases di_e hB with ⟨v5, h2, z3, hB⟩ | ⟨q4, h2, z3, hB⟩
  · refine rg_call (rg_v9 (n := 0) (b := a0) (as := [.ref a0]) (ar := []) rfl rfl rfl (Nat.le_of_ble_eq_true rfl) rfl rfl (Nat.le_of_ble_eq_true rfl) (of_decide_eq_true c1)) (sF_8 z3) ?_
    refine rg_p (L' := [.ref a0, .int v5, .null, .null]) rfl rfl ?_
    refine rg_ic (v := (1 : Int32)) rfl (by decide) ?_
    refine rg_p (L' := [.ref a0, .int v5, .int (1 : Int32), .null]) rfl rfl ?_
    refine rg_bi (v := (20 : Int32)) rfl (by decide) ?_
    refine rg_p (L' := [.ref a0, .int v5, .int (1 : Int32), .int (20 : Int32)]) rfl rfl ?_
    exact sB_21_10 f  f _ _ _ _ h2 _ hB
  · subst hB
    exact rg_callX (rg_v9 (n := 0) (b := a0) (as := [.ref a0]) (ar := []) rfl rfl rfl (Nat.le_of_ble_eq_true rfl) rfl rfl (Nat.le_of_ble_eq_true rfl) (of_decide_eq_true c1)) (sF_8 z3)
-- 23: RouteHouse$Packet.isRequest()Z
def B_23_57 (f : Nat) (s0 : Int32) (h : hp_T) : Option ev_O := (dg (dzb s0) (some (.inl (some (.int s0)), h)))
theorem sB_23_57 (f : Nat) (s0 : Int32) (w0 : Value) (w1 : Value) (w2 : Value) (h : hp_T) (o : ev_O) (hB : B_23_57 f s0 h = some o) : rg 23 57 [w0, w1, w2] [.int s0] h o := by
  unfold B_23_57 at hB
  obtain ⟨c1, hB⟩ := dg_e hB
  cases hB
  exact rg_ri rfl rfl (dz_n (dz_of c1))
def B_23_56 (f : Nat) (h : hp_T) : Option ev_O := (B_23_57 f  (0 : Int32) h)
theorem sB_23_56 (f : Nat) (w0 : Value) (w1 : Value) (w2 : Value) (h : hp_T) (o : ev_O) (hB : B_23_56 f  h = some o) : rg 23 56 [w0, w1, w2] [] h o := by
  unfold B_23_56 at hB
  refine rg_ic (v := (0 : Int32)) rfl (by decide) ?_
  exact sB_23_57 f  _ _ _ _ h _ hB
def F_23 (f : Nat) (a0 : Nat) (h : hp_T) : Option ev_O := (dg (decide (hp_k h a0 = some (2, 0))) (di (F_8 f a0 h) fun v5 h2 => (dg (decide (hp_k h2 a0 = some (2, 0))) (di (F_10 f a0 h2) fun v10 h7 => (db (ev_c .lt v10 (8 : Int32)) (B_23_56 f   h7) (dg (decide (hp_k h7 a0 = some (2, 0))) (dp (hp_p h7 a0 0) fun r13 => (dg (aib 65 h7 r13 v5) (db (ev_c .ne (hp_z h7 r13 (Int32.toNatClampNeg v5)) (8 : Int32)) (B_23_56 f   h7) (di (F_123 f r13 v5 v10 (v5 + (2 : Int32)) h7) fun v20 h17 => (dg (decide (hp_k h17 a0 = some (2, 0))) (dp (hp_p h17 a0 0) fun r22 => (di (F_119 f r22 (v5 + (2 : Int32)) h17) fun v27 h24 => (db (ev_c .ne v20 v27) (B_23_56 f   h24) (B_23_57 f  (1 : Int32) h24)))))))))))))))
theorem sF_23 {f : Nat} {a0 : Nat} {h : hp_T} {o : ev_O} (hB : F_23 f a0 h = some o) : rm 23 [.ref a0] h o := by
  unfold F_23 at hB
  refine rm_in (L := [.ref a0, .null, .null]) (Nat.le_of_ble_eq_true rfl) rfl ?_
  refine rg_p rfl rfl ?_
  obtain ⟨c1, hB⟩ := dg_e hB
  rcases di_e hB with ⟨v5, h2, z3, hB⟩ | ⟨q4, h2, z3, hB⟩
  · refine rg_call (rg_v9 (n := 0) (b := a0) (as := [.ref a0]) (ar := []) rfl rfl rfl (Nat.le_of_ble_eq_true rfl) rfl rfl (Nat.le_of_ble_eq_true rfl) (of_decide_eq_true c1)) (sF_8 z3) ?_
    refine rg_p (L' := [.ref a0, .int v5, .null]) rfl rfl ?_
    refine rg_p rfl rfl ?_
    obtain ⟨c6, hB⟩ := dg_e hB
    rcases di_e hB with ⟨v10, h7, z8, hB⟩ | ⟨q9, h7, z8, hB⟩
    · refine rg_call (rg_v9 (n := 0) (b := a0) (as := [.ref a0]) (ar := []) rfl rfl rfl (Nat.le_of_ble_eq_true rfl) rfl rfl (Nat.le_of_ble_eq_true rfl) (of_decide_eq_true c6)) (sF_10 z8) ?_
      refine rg_p (L' := [.ref a0, .int v5, .int v10]) rfl rfl ?_
      refine rg_p rfl rfl ?_
      refine rg_bi (v := (8 : Int32)) rfl (by decide) ?_
      rcases db_e hB with ⟨q11, hB⟩ | ⟨q11, hB⟩
      · refine rg_bt (t := 56) (pc' := 16) rfl rfl q11 ?_
        exact sB_23_56 f  _ _ _ h7 _ hB
      · refine rg_bf (t := 56) (pc' := 16) rfl rfl q11 ?_
        refine rg_p rfl rfl ?_
        obtain ⟨c12, hB⟩ := dg_e hB
        obtain ⟨r13, p14, hB⟩ := dp_e hB
        refine rg_gp rfl rfl rfl (of_decide_eq_true c12) p14 ?_
        refine rg_p rfl rfl ?_
        obtain ⟨c15, hB⟩ := dg_e hB
        refine rg_ba (t := 65) (by decide) rfl (ai_of c15) ?_
        refine rg_bi (v := (8 : Int32)) rfl (by decide) ?_
        show rg 23 24 _ _ _ _
        rcases db_e hB with ⟨q16, hB⟩ | ⟨q16, hB⟩
        · refine rg_bt (t := 56) (pc' := 27) rfl rfl q16 ?_
          exact sB_23_56 f  _ _ _ h7 _ hB
        · refine rg_bf (t := 56) (pc' := 27) rfl rfl q16 ?_
          refine rg_p rfl rfl ?_
          refine rg_gp rfl rfl rfl (of_decide_eq_true c12) p14 ?_
          refine rg_p rfl rfl ?_
          refine rg_p rfl rfl ?_
          refine rg_p rfl rfl ?_
          show rg 23 34 _ _ _ _
          refine rg_ic (v := (2 : Int32)) rfl (by decide) ?_
          refine rg_p rfl rfl ?_
          rcases di_e hB with ⟨v20, h17, z18, hB⟩ | ⟨q19, h17, z18, hB⟩
          · refine rg_call (rg_s9 (n := 4) (as := [.ref r13, .int v5, .int v10, .int (v5 + (2 : Int32))]) (ar := []) rfl (rg_s0 rfl) rfl rfl (Nat.le_of_ble_eq_true rfl) rfl rfl (Nat.le_of_ble_eq_true rfl)) (sF_123 z18) ?_
            refine rg_p rfl rfl ?_
            obtain ⟨c21, hB⟩ := dg_e hB
            obtain ⟨r22, p23, hB⟩ := dp_e hB
            refine rg_gp rfl rfl rfl (of_decide_eq_true c21) p23 ?_
            refine rg_p rfl rfl ?_
            refine rg_ic (v := (2 : Int32)) rfl (by decide) ?_
            refine rg_p rfl rfl ?_
            show rg 23 46 _ _ _ _
            rcases di_e hB with ⟨v27, h24, z25, hB⟩ | ⟨q26, h24, z25, hB⟩
            · refine rg_call (rg_s9 (n := 2) (as := [.ref r22, .int (v5 + (2 : Int32))]) (ar := []) rfl (rg_s0 rfl) rfl rfl (Nat.le_of_ble_eq_true rfl) rfl rfl (Nat.le_of_ble_eq_true rfl)) (sF_119 z25) ?_
              rcases db_e hB with ⟨q28, hB⟩ | ⟨q28, hB⟩
              · refine rg_bt (t := 56) (pc' := 52) rfl rfl q28 ?_
                exact sB_23_56 f  _ _ _ h24 _ hB
              · refine rg_bf (t := 56) (pc' := 52) rfl rfl q28 ?_
                refine rg_ic (v := (1 : Int32)) rfl (by decide) ?_
                refine rg_p (pc' := 57) rfl rfl ?_
                exact sB_23_57 f  _ _ _ _ h24 _ hB
            · subst hB
              exact rg_callX (rg_s9 (n := 2) (as := [.ref r22, .int (v5 + (2 : Int32))]) (ar := []) rfl (rg_s0 rfl) rfl rfl (Nat.le_of_ble_eq_true rfl) rfl rfl (Nat.le_of_ble_eq_true rfl)) (sF_119 z25)
          · subst hB
            exact rg_callX (rg_s9 (n := 4) (as := [.ref r13, .int v5, .int v10, .int (v5 + (2 : Int32))]) (ar := []) rfl (rg_s0 rfl) rfl rfl (Nat.le_of_ble_eq_true rfl) rfl rfl (Nat.le_of_ble_eq_true rfl)) (sF_123 z18)
    · subst hB
      exact rg_callX (rg_v9 (n := 0) (b := a0) (as := [.ref a0]) (ar := []) rfl rfl rfl (Nat.le_of_ble_eq_true rfl) rfl rfl (Nat.le_of_ble_eq_true rfl) (of_decide_eq_true c6)) (sF_10 z8)
  · subst hB
    exact rg_callX (rg_v9 (n := 0) (b := a0) (as := [.ref a0]) (ar := []) rfl rfl rfl (Nat.le_of_ble_eq_true rfl) rfl rfl (Nat.le_of_ble_eq_true rfl) (of_decide_eq_true c1)) (sF_8 z3)
-- 24: RouteHouse$Packet.mayHaveError()Z
def B_24_62 (f : Nat) (s0 : Int32) (h : hp_T) : Option ev_O := (dg (dzb s0) (some (.inl (some (.int s0)), h)))
theorem sB_24_62 (f : Nat) (s0 : Int32) (w0 : Value) (w1 : Value) (h : hp_T) (o : ev_O) (hB : B_24_62 f s0 h = some o) : rg 24 62 [w0, w1] [.int s0] h o := by
  unfold B_24_62 at hB
  obtain ⟨c1, hB⟩ := dg_e hB
  cases hB
  exact rg_ri rfl rfl (dz_n (dz_of c1))
def B_24_57 (f : Nat) (h : hp_T) : Option ev_O := (B_24_62 f  (1 : Int32) h)
theorem sB_24_57 (f : Nat) (w0 : Value) (w1 : Value) (h : hp_T) (o : ev_O) (hB : B_24_57 f  h = some o) : rg 24 57 [w0, w1] [] h o := by
  unfold B_24_57 at hB
  refine rg_ic (v := (1 : Int32)) rfl (by decide) ?_
  refine rg_p (pc' := 62) rfl rfl ?_
  exact sB_24_62 f  _ _ _ h _ hB
def B_24_46 (f : Nat) (s0 : Int32) (h : hp_T) : Option ev_O := (db (ev_c .eq s0 (8 : Int32)) (B_24_57 f   h) (db (ev_c .ne s0 0) (B_24_62 f  (0 : Int32) h) (B_24_57 f   h)))
theorem sB_24_46 (f : Nat) (s0 : Int32) (w0 : Value) (w1 : Value) (h : hp_T) (o : ev_O) (hB : B_24_46 f s0 h = some o) : rg 24 46 [w0, w1] [.int s0] h o := by
  unfold B_24_46 at hB
  refine rg_p (L' := [w0, .int s0]) rfl rfl ?_
  refine rg_p rfl rfl ?_
  refine rg_bi (v := (8 : Int32)) rfl (by decide) ?_
  rcases db_e hB with ⟨q1, hB⟩ | ⟨q1, hB⟩
  · refine rg_bt (t := 57) (pc' := 53) rfl rfl q1 ?_
    exact sB_24_57 f  _ _ h _ hB
  · refine rg_bf (t := 57) (pc' := 53) rfl rfl q1 ?_
    refine rg_p rfl rfl ?_
    rcases db_e hB with ⟨q2, hB⟩ | ⟨q2, hB⟩
    · refine rg_bt (t := 61) (pc' := 57) rfl rfl q2 ?_
      refine rg_ic (v := (0 : Int32)) rfl (by decide) ?_
      exact sB_24_62 f  _ _ _ h _ hB
    · refine rg_bf (t := 61) (pc' := 57) rfl rfl q2 ?_
      exact sB_24_57 f  _ _ h _ hB
def B_24_14 (f : Nat) (h : hp_T) : Option ev_O := (some (.inl (some (.int (0 : Int32))), h))
theorem sB_24_14 (f : Nat) (w0 : Value) (w1 : Value) (h : hp_T) (o : ev_O) (hB : B_24_14 f  h = some o) : rg 24 14 [w0, w1] [] h o := by
  unfold B_24_14 at hB
  refine rg_ic (v := (0 : Int32)) rfl (by decide) ?_
  cases hB
  exact rg_ri rfl rfl (dz_n dz_0)
def F_24 (f : Nat) (a0 : Nat) (h : hp_T) : Option ev_O := (dg (decide (hp_k h a0 = some (2, 0))) (di (F_15 f a0 h) fun v5 h2 => (db (ev_c .ne v5 0) (B_24_14 f   h2) (dg (decide (hp_k h2 a0 = some (2, 0))) (di (F_18 f a0 h2) fun v11 h8 => (db (ev_c .ne v11 0) (dg (decide (hp_k h8 a0 = some (2, 0))) (di (F_17 f a0 h8) fun v17 h14 => (db (ev_c .eq v17 (1 : Int32)) (dg (decide (hp_k h14 a0 = some (2, 0))) (di (F_10 f a0 h14) fun v23 h20 => (db (ev_c .ne v23 0) (dg (decide (hp_k h20 a0 = some (2, 0))) (dp (hp_p h20 a0 0) fun r26 => (di (F_8 f a0 h20) fun v31 h28 => (dg (aib 65 h28 r26 v31) (B_24_46 f  (hp_z h28 r26 (Int32.toNatClampNeg v31)) h28))))) (B_24_46 f  (-1 : Int32) h20)))) (some (.inl (some (.int (1 : Int32))), h14))))) (B_24_14 f   h8)))))))
theorem sF_24 {f : Nat} {a0 : Nat} {h : hp_T} {o : ev_O} (hB : F_24 f a0 h = some o) : rm 24 [.ref a0] h o := by
  unfold F_24 at hB
  refine rm_in (L := [.ref a0, .null]) (Nat.le_of_ble_eq_true rfl) rfl ?_
  refine rg_p rfl rfl ?_
  obtain ⟨c1, hB⟩ := dg_e hB
  rcases di_e hB with ⟨v5, h2, z3, hB⟩ | ⟨q4, h2, z3, hB⟩
  · refine rg_call (rg_v9 (n := 0) (b := a0) (as := [.ref a0]) (ar := []) rfl rfl rfl (Nat.le_of_ble_eq_true rfl) rfl rfl (Nat.le_of_ble_eq_true rfl) (of_decide_eq_true c1)) (sF_15 z3) ?_
    rcases db_e hB with ⟨q6, hB⟩ | ⟨q6, hB⟩
    · refine rg_bt (t := 14) (pc' := 7) rfl rfl q6 ?_
      exact sB_24_14 f  _ _ h2 _ hB
    · refine rg_bf (t := 14) (pc' := 7) rfl rfl q6 ?_
      refine rg_p rfl rfl ?_
      obtain ⟨c7, hB⟩ := dg_e hB
      rcases di_e hB with ⟨v11, h8, z9, hB⟩ | ⟨q10, h8, z9, hB⟩
      · refine rg_call (rg_v9 (n := 0) (b := a0) (as := [.ref a0]) (ar := []) rfl rfl rfl (Nat.le_of_ble_eq_true rfl) rfl rfl (Nat.le_of_ble_eq_true rfl) (of_decide_eq_true c7)) (sF_18 z9) ?_
        rcases db_e hB with ⟨q12, hB⟩ | ⟨q12, hB⟩
        · refine rg_bt (t := 16) (pc' := 14) rfl rfl q12 ?_
          refine rg_p rfl rfl ?_
          obtain ⟨c13, hB⟩ := dg_e hB
          rcases di_e hB with ⟨v17, h14, z15, hB⟩ | ⟨q16, h14, z15, hB⟩
          · refine rg_call (rg_v9 (n := 0) (b := a0) (as := [.ref a0]) (ar := []) rfl rfl rfl (Nat.le_of_ble_eq_true rfl) rfl rfl (Nat.le_of_ble_eq_true rfl) (of_decide_eq_true c13)) (sF_17 z15) ?_
            refine rg_ic (v := (1 : Int32)) rfl (by decide) ?_
            rcases db_e hB with ⟨q18, hB⟩ | ⟨q18, hB⟩
            · refine rg_bt (t := 26) (pc' := 24) rfl rfl q18 ?_
              refine rg_p rfl rfl ?_
              obtain ⟨c19, hB⟩ := dg_e hB
              rcases di_e hB with ⟨v23, h20, z21, hB⟩ | ⟨q22, h20, z21, hB⟩
              · refine rg_call (rg_v9 (n := 0) (b := a0) (as := [.ref a0]) (ar := []) rfl rfl rfl (Nat.le_of_ble_eq_true rfl) rfl rfl (Nat.le_of_ble_eq_true rfl) (of_decide_eq_true c19)) (sF_10 z21) ?_
                rcases db_e hB with ⟨q24, hB⟩ | ⟨q24, hB⟩
                · refine rg_bt (t := 37) (pc' := 33) rfl rfl q24 ?_
                  refine rg_p rfl rfl ?_
                  obtain ⟨c25, hB⟩ := dg_e hB
                  obtain ⟨r26, p27, hB⟩ := dp_e hB
                  refine rg_gp rfl rfl rfl (of_decide_eq_true c25) p27 ?_
                  refine rg_p rfl rfl ?_
                  rcases di_e hB with ⟨v31, h28, z29, hB⟩ | ⟨q30, h28, z29, hB⟩
                  · refine rg_call (rg_v9 (n := 0) (b := a0) (as := [.ref a0]) (ar := []) rfl rfl rfl (Nat.le_of_ble_eq_true rfl) rfl rfl (Nat.le_of_ble_eq_true rfl) (of_decide_eq_true c25)) (sF_8 z29) ?_
                    obtain ⟨c32, hB⟩ := dg_e hB
                    refine rg_ba (t := 65) (by decide) rfl (ai_of c32) ?_
                    exact sB_24_46 f  _ _ _ h28 _ hB
                  · subst hB
                    exact rg_callX (rg_v9 (n := 0) (b := a0) (as := [.ref a0]) (ar := []) rfl rfl rfl (Nat.le_of_ble_eq_true rfl) rfl rfl (Nat.le_of_ble_eq_true rfl) (of_decide_eq_true c25)) (sF_8 z29)
                · refine rg_bf (t := 37) (pc' := 33) rfl rfl q24 ?_
                  refine rg_ic (v := (-1 : Int32)) rfl (by decide) ?_
                  refine rg_p (pc' := 46) rfl rfl ?_
                  exact sB_24_46 f  _ _ _ h20 _ hB
              · subst hB
                exact rg_callX (rg_v9 (n := 0) (b := a0) (as := [.ref a0]) (ar := []) rfl rfl rfl (Nat.le_of_ble_eq_true rfl) rfl rfl (Nat.le_of_ble_eq_true rfl) (of_decide_eq_true c19)) (sF_10 z21)
            · refine rg_bf (t := 26) (pc' := 24) rfl rfl q18 ?_
              refine rg_ic (v := (1 : Int32)) rfl (by decide) ?_
              cases hB
              exact rg_ri rfl rfl (dz_n dz_1)
          · subst hB
            exact rg_callX (rg_v9 (n := 0) (b := a0) (as := [.ref a0]) (ar := []) rfl rfl rfl (Nat.le_of_ble_eq_true rfl) rfl rfl (Nat.le_of_ble_eq_true rfl) (of_decide_eq_true c13)) (sF_17 z15)
        · refine rg_bf (t := 16) (pc' := 14) rfl rfl q12 ?_
          exact sB_24_14 f  _ _ h8 _ hB
      · subst hB
        exact rg_callX (rg_v9 (n := 0) (b := a0) (as := [.ref a0]) (ar := []) rfl rfl rfl (Nat.le_of_ble_eq_true rfl) rfl rfl (Nat.le_of_ble_eq_true rfl) (of_decide_eq_true c7)) (sF_18 z9)
  · subst hB
    exact rg_callX (rg_v9 (n := 0) (b := a0) (as := [.ref a0]) (ar := []) rfl rfl rfl (Nat.le_of_ble_eq_true rfl) rfl rfl (Nat.le_of_ble_eq_true rfl) (of_decide_eq_true c1)) (sF_15 z3)
-- 25: RouteHouse$Port.<init>()V
def F_25 (f : Nat) (a0 : Nat) (h : hp_T) : Option ev_O := (dg (decide (hp_k h a0 = some (3, 0))) (dl (wz h a0 1 (1500 : Int32)) fun h2 => (dg (decide (hp_k h2 a0 = some (3, 0))) (dl (wz h2 a0 2 (1 : Int32)) fun h5 => (some (.inl none, h5))))))
theorem sF_25 {f : Nat} {a0 : Nat} {h : hp_T} {o : ev_O} (hB : F_25 f a0 h = some o) : rm 25 [.ref a0] h o := by
  unfold F_25 at hB
  refine rm_in (L := [.ref a0]) (Nat.le_of_ble_eq_true rfl) rfl ?_
  refine rg_p rfl rfl ?_
  refine rg_oi rfl rfl (Nat.le_of_ble_eq_true rfl) ?_
  refine rg_p rfl rfl ?_
  refine rg_si (v := (1500 : Int32)) rfl (by decide) ?_
  obtain ⟨c1, hB⟩ := dg_e hB
  obtain ⟨h2, e3, hB⟩ := dl_e hB
  refine rg_pi rfl rfl rfl (of_decide_eq_true c1) e3 ?_
  show rg 25 11 _ _ _ _
  refine rg_p rfl rfl ?_
  refine rg_ic (v := (1 : Int32)) rfl (by decide) ?_
  obtain ⟨c4, hB⟩ := dg_e hB
  obtain ⟨h5, e6, hB⟩ := dl_e hB
  refine rg_pb rfl rfl rfl (of_decide_eq_true c4) dz_1 e6 ?_
  cases hB
  exact rg_rv rfl rfl
-- 26: RouteHouse$Routes.<init>()V
def F_26 (f : Nat) (a0 : Nat) (h : hp_T) : Option ev_O := (dl (hp_new h 64 (Int32.toNatClampNeg (400 : Int32)) (Int32.toNatClampNeg (400 : Int32))) fun h1 => (dg (decide (hp_k h1 a0 = some (4, 0))) (dl (hp_pw h1 a0 0 (some h.1.length)) fun h4 => (dl (hp_new h4 64 (Int32.toNatClampNeg (400 : Int32)) (Int32.toNatClampNeg (400 : Int32))) fun h6 => (dg (decide (hp_k h6 a0 = some (4, 0))) (dl (hp_pw h6 a0 1 (some h4.1.length)) fun h9 => (dl (hp_new h9 64 (Int32.toNatClampNeg (400 : Int32)) (Int32.toNatClampNeg (400 : Int32))) fun h11 => (dg (decide (hp_k h11 a0 = some (4, 0))) (dl (hp_pw h11 a0 2 (some h9.1.length)) fun h14 => (dl (hp_new h14 64 (Int32.toNatClampNeg (400 : Int32)) (Int32.toNatClampNeg (400 : Int32))) fun h16 => (dg (decide (hp_k h16 a0 = some (4, 0))) (dl (hp_pw h16 a0 3 (some h14.1.length)) fun h19 => (some (.inl none, h19))))))))))))))
theorem sF_26 {f : Nat} {a0 : Nat} {h : hp_T} {o : ev_O} (hB : F_26 f a0 h = some o) : rm 26 [.ref a0] h o := by
  unfold F_26 at hB
  refine rm_in (L := [.ref a0]) (Nat.le_of_ble_eq_true rfl) rfl ?_
  refine rg_p rfl rfl ?_
  refine rg_oi rfl rfl (Nat.le_of_ble_eq_true rfl) ?_
  refine rg_p rfl rfl ?_
  refine rg_si (v := (400 : Int32)) rfl (by decide) ?_
  obtain ⟨h1, e2, hB⟩ := dl_e hB
  refine rg_na (t := 64) rfl (by decide) rfl ⟨by decide, by decide⟩ e2 ?_
  show rg 26 10 _ _ _ _
  obtain ⟨c3, hB⟩ := dg_e hB
  obtain ⟨h4, e5, hB⟩ := dl_e hB
  refine rg_pp rfl rfl rfl (of_decide_eq_true c3) e5 ?_
  refine rg_p rfl rfl ?_
  refine rg_si (v := (400 : Int32)) rfl (by decide) ?_
  obtain ⟨h6, e7, hB⟩ := dl_e hB
  refine rg_na (t := 64) rfl (by decide) rfl ⟨by decide, by decide⟩ e7 ?_
  obtain ⟨c8, hB⟩ := dg_e hB
  obtain ⟨h9, e10, hB⟩ := dl_e hB
  refine rg_pp rfl rfl rfl (of_decide_eq_true c8) e10 ?_
  refine rg_p rfl rfl ?_
  show rg 26 23 _ _ _ _
  refine rg_si (v := (400 : Int32)) rfl (by decide) ?_
  obtain ⟨h11, e12, hB⟩ := dl_e hB
  refine rg_na (t := 64) rfl (by decide) rfl ⟨by decide, by decide⟩ e12 ?_
  obtain ⟨c13, hB⟩ := dg_e hB
  obtain ⟨h14, e15, hB⟩ := dl_e hB
  refine rg_pp rfl rfl rfl (of_decide_eq_true c13) e15 ?_
  refine rg_p rfl rfl ?_
  refine rg_si (v := (400 : Int32)) rfl (by decide) ?_
  obtain ⟨h16, e17, hB⟩ := dl_e hB
  refine rg_na (t := 64) rfl (by decide) rfl ⟨by decide, by decide⟩ e17 ?_
  show rg 26 37 _ _ _ _
  obtain ⟨c18, hB⟩ := dg_e hB
  obtain ⟨h19, e20, hB⟩ := dl_e hB
  refine rg_pp rfl rfl rfl (of_decide_eq_true c18) e20 ?_
  cases hB
  exact rg_rv rfl rfl
-- 27: RouteHouse$Routes.beginning(II)I
def B_27_16 (f : Nat) (s0 : Int32) (h : hp_T) : Option ev_O := (some (.inl (some (.int s0)), h))
theorem sB_27_16 (f : Nat) (s0 : Int32) (w0 : Value) (w1 : Value) (h : hp_T) (o : ev_O) (hB : B_27_16 f s0 h = some o) : rg 27 16 [w0, w1] [.int s0] h o := by
  unfold B_27_16 at hB
  cases hB
  exact rg_ri rfl rfl rfl
def F_27 (f : Nat) (a0 : Int32) (a1 : Int32) (h : hp_T) : Option ev_O := (db (ev_c .ne a1 0) (B_27_16 f  (a0 &&& ((-1 : Int32) <<< (((32 : Int32) - a1) &&& 31))) h) (B_27_16 f  (0 : Int32) h))
theorem sF_27 {f : Nat} {a0 : Int32} {a1 : Int32} {h : hp_T} {o : ev_O} (hB : F_27 f a0 a1 h = some o) : rm 27 [.int a0, .int a1] h o := by
  unfold F_27 at hB
  refine rm_in (L := [.int a0, .int a1]) (Nat.le_of_ble_eq_true rfl) rfl ?_
  refine rg_p rfl rfl ?_
  rcases db_e hB with ⟨q1, hB⟩ | ⟨q1, hB⟩
  · refine rg_bt (t := 8) (pc' := 4) rfl rfl q1 ?_
    refine rg_p rfl rfl ?_
    refine rg_ic (v := (-1 : Int32)) rfl (by decide) ?_
    refine rg_bi (v := (32 : Int32)) rfl (by decide) ?_
    refine rg_p rfl rfl ?_
    refine rg_p rfl rfl ?_
    show rg 27 14 _ _ _ _
    refine rg_p rfl rfl ?_
    refine rg_p rfl rfl ?_
    exact sB_27_16 f  _ _ _ h _ hB
  · refine rg_bf (t := 8) (pc' := 4) rfl rfl q1 ?_
    refine rg_ic (v := (0 : Int32)) rfl (by decide) ?_
    refine rg_p (pc' := 16) rfl rfl ?_
    exact sB_27_16 f  _ _ _ h _ hB
-- 28: RouteHouse$Routes.find(II)I
def B_28_43 (f : Nat) (C9 : Nat → Int32 → Int32 → Int32 → hp_T → Option ev_O) (l0 : Nat) (l2 : Int32) (l3 : Int32) (l4 : Int32) (h : hp_T) : Option ev_O := (C9 l0 l2 l3 (l4 + (1 : Int32)) h)
theorem sB_28_43 (f : Nat) (C9 : Nat → Int32 → Int32 → Int32 → hp_T → Option ev_O) (hC9 : ∀ (l0 : Nat) (l2 : Int32) (l3 : Int32) (l4 : Int32) (w1 : Value) (h : hp_T) (o : ev_O), C9 l0 l2 l3 l4 h = some o → rg 28 9 [.ref l0, w1, .int l2, .int l3, .int l4] [] h o) (l0 : Nat) (l2 : Int32) (l3 : Int32) (l4 : Int32) (w1 : Value) (h : hp_T) (o : ev_O) (hB : B_28_43 f C9 l0 l2 l3 l4 h = some o) : rg 28 43 [.ref l0, w1, .int l2, .int l3, .int l4] [] h o := by
  unfold B_28_43 at hB
  refine rg_p (L' := [.ref l0, w1, .int l2, .int l3, .int (l4 + (1 : Int32))]) rfl rfl ?_
  refine rg_p (pc' := 9) rfl rfl ?_
  exact hC9 _ _ _ _ _ h _ hB
def B_28_9 (f : Nat) : Nat → Nat → Int32 → Int32 → Int32 → hp_T → Option ev_O
  | 0, _, _, _, _, _ => none
  | g + 1, l0, l2, l3, l4, h => (dg (decide (hp_k h l0 = some (4, 0))) (db (ev_c .ge l4 (hp_z h l0 4)) (some (.inl (some (.int (-1 : Int32))), h)) (dp (hp_p h l0 1) fun r3 => (dg (aib 64 h r3 l4) (db (ev_c .ne (hp_z h r3 (Int32.toNatClampNeg l4)) l2) (B_28_43 f (B_28_9 f g) l0 l2 l3 l4 h) (dp (hp_p h l0 0) fun r7 => (dg (aib 64 h r7 l4) (db (ev_c .ne (hp_z h r7 (Int32.toNatClampNeg l4)) l3) (B_28_43 f (B_28_9 f g) l0 l2 l3 l4 h) (some (.inl (some (.int l4)), h))))))))))
theorem sB_28_9 (f : Nat) : ∀ (g : Nat) (l0 : Nat) (l2 : Int32) (l3 : Int32) (l4 : Int32) (w1 : Value) (h : hp_T) (o : ev_O), B_28_9 f g l0 l2 l3 l4 h = some o → rg 28 9 [.ref l0, w1, .int l2, .int l3, .int l4] [] h o := by
  intro g
  induction g with
  | zero =>
    intro l0 l2 l3 l4 w1 h o hB
    rw [B_28_9] at hB
    cases hB
  | succ g ih =>
    intro l0 l2 l3 l4 w1 h o hB
    rw [B_28_9] at hB
    refine rg_p rfl rfl ?_
    refine rg_p rfl rfl ?_
    obtain ⟨c1, hB⟩ := dg_e hB
    refine rg_gz rfl rfl rfl (of_decide_eq_true c1) ?_
    rcases db_e hB with ⟨q2, hB⟩ | ⟨q2, hB⟩
    · refine rg_bt (t := 49) (pc' := 18) rfl rfl q2 ?_
      refine rg_ic (v := (-1 : Int32)) rfl (by decide) ?_
      cases hB
      exact rg_ri rfl rfl rfl
    · refine rg_bf (t := 49) (pc' := 18) rfl rfl q2 ?_
      refine rg_p rfl rfl ?_
      obtain ⟨r3, p4, hB⟩ := dp_e hB
      refine rg_gp rfl rfl rfl (of_decide_eq_true c1) p4 ?_
      refine rg_p rfl rfl ?_
      obtain ⟨c5, hB⟩ := dg_e hB
      refine rg_ia rfl (ai_of c5) ?_
      refine rg_p rfl rfl ?_
      show rg 28 26 _ _ _ _
      rcases db_e hB with ⟨q6, hB⟩ | ⟨q6, hB⟩
      · refine rg_bt (t := 43) (pc' := 29) rfl rfl q6 ?_
        exact sB_28_43 f (B_28_9 f g) ih _ _ _ _ _ h _ hB
      · refine rg_bf (t := 43) (pc' := 29) rfl rfl q6 ?_
        refine rg_p rfl rfl ?_
        obtain ⟨r7, p8, hB⟩ := dp_e hB
        refine rg_gp rfl rfl rfl (of_decide_eq_true c1) p8 ?_
        refine rg_p rfl rfl ?_
        obtain ⟨c9, hB⟩ := dg_e hB
        refine rg_ia rfl (ai_of c9) ?_
        refine rg_p rfl rfl ?_
        show rg 28 37 _ _ _ _
        rcases db_e hB with ⟨q10, hB⟩ | ⟨q10, hB⟩
        · refine rg_bt (t := 43) (pc' := 40) rfl rfl q10 ?_
          exact sB_28_43 f (B_28_9 f g) ih _ _ _ _ _ h _ hB
        · refine rg_bf (t := 43) (pc' := 40) rfl rfl q10 ?_
          refine rg_p rfl rfl ?_
          cases hB
          exact rg_ri rfl rfl rfl
def F_28 (f : Nat) (a0 : Nat) (a1 : Int32) (a2 : Int32) (h : hp_T) : Option ev_O := (di (F_27 f a1 a2 h) fun v4 h1 => (B_28_9 f  f a0 a2 v4 (0 : Int32) h1))
theorem sF_28 {f : Nat} {a0 : Nat} {a1 : Int32} {a2 : Int32} {h : hp_T} {o : ev_O} (hB : F_28 f a0 a1 a2 h = some o) : rm 28 [.ref a0, .int a1, .int a2] h o := by
  unfold F_28 at hB
  refine rm_in (L := [.ref a0, .int a1, .int a2, .null, .null]) (Nat.le_of_ble_eq_true rfl) rfl ?_
  refine rg_p rfl rfl ?_
  refine rg_p rfl rfl ?_
  rcases di_e hB with ⟨v4, h1, z2, hB⟩ | ⟨q3, h1, z2, hB⟩
  · refine rg_call (rg_s9 (n := 2) (as := [.int a1, .int a2]) (ar := []) rfl (rg_s0 rfl) rfl rfl (Nat.le_of_ble_eq_true rfl) rfl rfl (Nat.le_of_ble_eq_true rfl)) (sF_27 z2) ?_
    refine rg_p (L' := [.ref a0, .int a1, .int a2, .int v4, .null]) rfl rfl ?_
    refine rg_ic (v := (0 : Int32)) rfl (by decide) ?_
    refine rg_p (L' := [.ref a0, .int a1, .int a2, .int v4, .int (0 : Int32)]) rfl rfl ?_
    exact sB_28_9 f  f _ _ _ _ _ h1 _ hB
  · subst hB
    exact rg_callX (rg_s9 (n := 2) (as := [.int a1, .int a2]) (ar := []) rfl (rg_s0 rfl) rfl rfl (Nat.le_of_ble_eq_true rfl) rfl rfl (Nat.le_of_ble_eq_true rfl)) (sF_27 z2)
-- 29: RouteHouse$Routes.longest(I)I
def B_29_65 (f : Nat) (C4 : Nat → Int32 → Int32 → Int32 → hp_T → Option ev_O) (l0 : Nat) (l1 : Int32) (l2 : Int32) (l3 : Int32) (h : hp_T) : Option ev_O := (C4 l0 l1 l2 (l3 + (1 : Int32)) h)
theorem sB_29_65 (f : Nat) (C4 : Nat → Int32 → Int32 → Int32 → hp_T → Option ev_O) (hC4 : ∀ (l0 : Nat) (l1 : Int32) (l2 : Int32) (l3 : Int32) (w4 : Value) (h : hp_T) (o : ev_O), C4 l0 l1 l2 l3 h = some o → rg 29 4 [.ref l0, .int l1, .int l2, .int l3, w4] [] h o) (l0 : Nat) (l1 : Int32) (l2 : Int32) (l3 : Int32) (w4 : Value) (h : hp_T) (o : ev_O) (hB : B_29_65 f C4 l0 l1 l2 l3 h = some o) : rg 29 65 [.ref l0, .int l1, .int l2, .int l3, w4] [] h o := by
  unfold B_29_65 at hB
  refine rg_p (L' := [.ref l0, .int l1, .int l2, .int (l3 + (1 : Int32)), w4]) rfl rfl ?_
  refine rg_p (pc' := 4) rfl rfl ?_
  exact hC4 _ _ _ _ _ h _ hB
def B_29_37 (f : Nat) (C4 : Nat → Int32 → Int32 → Int32 → hp_T → Option ev_O) (l0 : Nat) (l1 : Int32) (l2 : Int32) (l3 : Int32) (s0 : Int32) (h : hp_T) : Option ev_O := (db (ev_c .eq s0 0) (B_29_65 f C4 l0 l1 l2 l3 h) (dg (decide (hp_k h l0 = some (4, 0))) (dp (hp_p h l0 0) fun r3 => (dg (aib 64 h r3 l3) (dp (hp_p h l0 1) fun r6 => (dg (aib 64 h r6 l3) (di (F_27 f l1 (hp_z h r6 (Int32.toNatClampNeg l3)) h) fun v12 h9 => (db (ev_c .ne (hp_z h r3 (Int32.toNatClampNeg l3)) v12) (B_29_65 f C4 l0 l1 l2 l3 h9) (B_29_65 f C4 l0 l1 l3 l3 h9)))))))))
theorem sB_29_37 (f : Nat) (C4 : Nat → Int32 → Int32 → Int32 → hp_T → Option ev_O) (hC4 : ∀ (l0 : Nat) (l1 : Int32) (l2 : Int32) (l3 : Int32) (w4 : Value) (h : hp_T) (o : ev_O), C4 l0 l1 l2 l3 h = some o → rg 29 4 [.ref l0, .int l1, .int l2, .int l3, w4] [] h o) (l0 : Nat) (l1 : Int32) (l2 : Int32) (l3 : Int32) (s0 : Int32) (w4 : Value) (h : hp_T) (o : ev_O) (hB : B_29_37 f C4 l0 l1 l2 l3 s0 h = some o) : rg 29 37 [.ref l0, .int l1, .int l2, .int l3, w4] [.int s0] h o := by
  unfold B_29_37 at hB
  refine rg_p (L' := [.ref l0, .int l1, .int l2, .int l3, .int s0]) rfl rfl ?_
  refine rg_p rfl rfl ?_
  rcases db_e hB with ⟨q1, hB⟩ | ⟨q1, hB⟩
  · refine rg_bt (t := 65) (pc' := 44) rfl rfl q1 ?_
    exact sB_29_65 f C4 hC4 _ _ _ _ _ h _ hB
  · refine rg_bf (t := 65) (pc' := 44) rfl rfl q1 ?_
    refine rg_p rfl rfl ?_
    obtain ⟨c2, hB⟩ := dg_e hB
    obtain ⟨r3, p4, hB⟩ := dp_e hB
    refine rg_gp rfl rfl rfl (of_decide_eq_true c2) p4 ?_
    refine rg_p rfl rfl ?_
    obtain ⟨c5, hB⟩ := dg_e hB
    refine rg_ia rfl (ai_of c5) ?_
    refine rg_p rfl rfl ?_
    show rg 29 51 _ _ _ _
    refine rg_p rfl rfl ?_
    obtain ⟨r6, p7, hB⟩ := dp_e hB
    refine rg_gp rfl rfl rfl (of_decide_eq_true c2) p7 ?_
    refine rg_p rfl rfl ?_
    obtain ⟨c8, hB⟩ := dg_e hB
    refine rg_ia rfl (ai_of c8) ?_
    rcases di_e hB with ⟨v12, h9, z10, hB⟩ | ⟨q11, h9, z10, hB⟩
    · refine rg_call (rg_s9 (n := 2) (as := [.int l1, .int (hp_z h r6 (Int32.toNatClampNeg l3))]) (ar := []) rfl (rg_s0 rfl) rfl rfl (Nat.le_of_ble_eq_true rfl) rfl rfl (Nat.le_of_ble_eq_true rfl)) (sF_27 z10) ?_
      rcases db_e hB with ⟨q13, hB⟩ | ⟨q13, hB⟩
      · refine rg_bt (t := 65) (pc' := 63) rfl rfl q13 ?_
        exact sB_29_65 f C4 hC4 _ _ _ _ _ h9 _ hB
      · refine rg_bf (t := 65) (pc' := 63) rfl rfl q13 ?_
        refine rg_p rfl rfl ?_
        refine rg_p (L' := [.ref l0, .int l1, .int l3, .int l3, .int s0]) rfl rfl ?_
        exact sB_29_65 f C4 hC4 _ _ _ _ _ h9 _ hB
    · subst hB
      exact rg_callX (rg_s9 (n := 2) (as := [.int l1, .int (hp_z h r6 (Int32.toNatClampNeg l3))]) (ar := []) rfl (rg_s0 rfl) rfl rfl (Nat.le_of_ble_eq_true rfl) rfl rfl (Nat.le_of_ble_eq_true rfl)) (sF_27 z10)
def B_29_32 (f : Nat) (C4 : Nat → Int32 → Int32 → Int32 → hp_T → Option ev_O) (l0 : Nat) (l1 : Int32) (l2 : Int32) (l3 : Int32) (h : hp_T) : Option ev_O := (B_29_37 f C4 l0 l1 l2 l3 (1 : Int32) h)
theorem sB_29_32 (f : Nat) (C4 : Nat → Int32 → Int32 → Int32 → hp_T → Option ev_O) (hC4 : ∀ (l0 : Nat) (l1 : Int32) (l2 : Int32) (l3 : Int32) (w4 : Value) (h : hp_T) (o : ev_O), C4 l0 l1 l2 l3 h = some o → rg 29 4 [.ref l0, .int l1, .int l2, .int l3, w4] [] h o) (l0 : Nat) (l1 : Int32) (l2 : Int32) (l3 : Int32) (w4 : Value) (h : hp_T) (o : ev_O) (hB : B_29_32 f C4 l0 l1 l2 l3 h = some o) : rg 29 32 [.ref l0, .int l1, .int l2, .int l3, w4] [] h o := by
  unfold B_29_32 at hB
  refine rg_ic (v := (1 : Int32)) rfl (by decide) ?_
  refine rg_p (pc' := 37) rfl rfl ?_
  exact sB_29_37 f C4 hC4 _ _ _ _ _ _ h _ hB
def B_29_4 (f : Nat) : Nat → Nat → Int32 → Int32 → Int32 → hp_T → Option ev_O
  | 0, _, _, _, _, _ => none
  | g + 1, l0, l1, l2, l3, h => (dg (decide (hp_k h l0 = some (4, 0))) (db (ev_c .ge l3 (hp_z h l0 4)) (some (.inl (some (.int l2)), h)) (db (ev_c .eq l2 (-1 : Int32)) (B_29_32 f (B_29_4 f g) l0 l1 l2 l3 h) (dp (hp_p h l0 1) fun r4 => (dg (aib 64 h r4 l3) (dg (aib 64 h r4 l2) (db (ev_c .le (hp_z h r4 (Int32.toNatClampNeg l3)) (hp_z h r4 (Int32.toNatClampNeg l2))) (B_29_37 f (B_29_4 f g) l0 l1 l2 l3 (0 : Int32) h) (B_29_32 f (B_29_4 f g) l0 l1 l2 l3 h))))))))
theorem sB_29_4 (f : Nat) : ∀ (g : Nat) (l0 : Nat) (l1 : Int32) (l2 : Int32) (l3 : Int32) (w4 : Value) (h : hp_T) (o : ev_O), B_29_4 f g l0 l1 l2 l3 h = some o → rg 29 4 [.ref l0, .int l1, .int l2, .int l3, w4] [] h o := by
  intro g
  induction g with
  | zero =>
    intro l0 l1 l2 l3 w4 h o hB
    rw [B_29_4] at hB
    cases hB
  | succ g ih =>
    intro l0 l1 l2 l3 w4 h o hB
    rw [B_29_4] at hB
    refine rg_p rfl rfl ?_
    refine rg_p rfl rfl ?_
    obtain ⟨c1, hB⟩ := dg_e hB
    refine rg_gz rfl rfl rfl (of_decide_eq_true c1) ?_
    rcases db_e hB with ⟨q2, hB⟩ | ⟨q2, hB⟩
    · refine rg_bt (t := 71) (pc' := 12) rfl rfl q2 ?_
      refine rg_p rfl rfl ?_
      cases hB
      exact rg_ri rfl rfl rfl
    · refine rg_bf (t := 71) (pc' := 12) rfl rfl q2 ?_
      refine rg_p rfl rfl ?_
      refine rg_ic (v := (-1 : Int32)) rfl (by decide) ?_
      rcases db_e hB with ⟨q3, hB⟩ | ⟨q3, hB⟩
      · refine rg_bt (t := 32) (pc' := 17) rfl rfl q3 ?_
        exact sB_29_32 f (B_29_4 f g) ih _ _ _ _ _ h _ hB
      · refine rg_bf (t := 32) (pc' := 17) rfl rfl q3 ?_
        refine rg_p rfl rfl ?_
        obtain ⟨r4, p5, hB⟩ := dp_e hB
        refine rg_gp rfl rfl rfl (of_decide_eq_true c1) p5 ?_
        refine rg_p rfl rfl ?_
        obtain ⟨c6, hB⟩ := dg_e hB
        refine rg_ia rfl (ai_of c6) ?_
        refine rg_p rfl rfl ?_
        show rg 29 24 _ _ _ _
        refine rg_gp rfl rfl rfl (of_decide_eq_true c1) p5 ?_
        refine rg_p rfl rfl ?_
        obtain ⟨c7, hB⟩ := dg_e hB
        refine rg_ia rfl (ai_of c7) ?_
        rcases db_e hB with ⟨q8, hB⟩ | ⟨q8, hB⟩
        · refine rg_bt (t := 36) (pc' := 32) rfl rfl q8 ?_
          refine rg_ic (v := (0 : Int32)) rfl (by decide) ?_
          exact sB_29_37 f (B_29_4 f g) ih _ _ _ _ _ _ h _ hB
        · refine rg_bf (t := 36) (pc' := 32) rfl rfl q8 ?_
          exact sB_29_32 f (B_29_4 f g) ih _ _ _ _ _ h _ hB
def F_29 (f : Nat) (a0 : Nat) (a1 : Int32) (h : hp_T) : Option ev_O := (B_29_4 f  f a0 a1 (-1 : Int32) (0 : Int32) h)
theorem sF_29 {f : Nat} {a0 : Nat} {a1 : Int32} {h : hp_T} {o : ev_O} (hB : F_29 f a0 a1 h = some o) : rm 29 [.ref a0, .int a1] h o := by
  unfold F_29 at hB
  refine rm_in (L := [.ref a0, .int a1, .null, .null, .null]) (Nat.le_of_ble_eq_true rfl) rfl ?_
  refine rg_ic (v := (-1 : Int32)) rfl (by decide) ?_
  refine rg_p (L' := [.ref a0, .int a1, .int (-1 : Int32), .null, .null]) rfl rfl ?_
  refine rg_ic (v := (0 : Int32)) rfl (by decide) ?_
  refine rg_p (L' := [.ref a0, .int a1, .int (-1 : Int32), .int (0 : Int32), .null]) rfl rfl ?_
  exact sB_29_4 f  f _ _ _ _ _ h _ hB
-- 30: RouteHouse$Routes.put(IIIII)V
def B_30_77 (f : Nat) (h : hp_T) : Option ev_O := (some (.inl none, h))
theorem sB_30_77 (f : Nat) (w0 : Value) (w1 : Value) (w2 : Value) (w3 : Value) (w4 : Value) (w5 : Value) (w6 : Value) (h : hp_T) (o : ev_O) (hB : B_30_77 f  h = some o) : rg 30 77 [w0, w1, w2, w3, w4, w5, w6] [] h o := by
  unfold B_30_77 at hB
  cases hB
  exact rg_rv rfl rfl
def B_30_13 (f : Nat) (l0 : Nat) (l1 : Int32) (l2 : Int32) (l3 : Int32) (l4 : Int32) (l5 : Int32) (s0 : Int32) (h : hp_T) : Option ev_O := (db (ev_c .lt s0 (400 : Int32)) (dg (decide (hp_k h l0 = some (4, 0))) (dp (hp_p h l0 0) fun r3 => (di (F_27 f l2 l3 h) fun v8 h5 => (dg (aib 64 h5 r3 s0) (dl (wz h5 r3 (Int32.toNatClampNeg s0) v8) fun h10 => (dg (decide (hp_k h10 l0 = some (4, 0))) (dp (hp_p h10 l0 1) fun r13 => (dg (aib 64 h10 r13 s0) (dl (wz h10 r13 (Int32.toNatClampNeg s0) l3) fun h16 => (dg (decide (hp_k h16 l0 = some (4, 0))) (dp (hp_p h16 l0 2) fun r19 => (dg (aib 64 h16 r19 s0) (dl (wz h16 r19 (Int32.toNatClampNeg s0) l4) fun h22 => (dg (decide (hp_k h22 l0 = some (4, 0))) (dp (hp_p h22 l0 3) fun r25 => (dg (aib 64 h22 r25 s0) (dl (wz h22 r25 (Int32.toNatClampNeg s0) l5) fun h28 => (db (ev_c .ne l1 (-1 : Int32)) (B_30_77 f   h28) (dg (decide (hp_k h28 l0 = some (4, 0))) (dl (wz h28 l0 4 ((hp_z h28 l0 4) + (1 : Int32))) fun h32 => (B_30_77 f   h32))))))))))))))))))))) (some (.inl none, h)))
theorem sB_30_13 (f : Nat) (l0 : Nat) (l1 : Int32) (l2 : Int32) (l3 : Int32) (l4 : Int32) (l5 : Int32) (s0 : Int32) (w6 : Value) (h : hp_T) (o : ev_O) (hB : B_30_13 f l0 l1 l2 l3 l4 l5 s0 h = some o) : rg 30 13 [.ref l0, .int l1, .int l2, .int l3, .int l4, .int l5, w6] [.int s0] h o := by
  unfold B_30_13 at hB
  refine rg_p (L' := [.ref l0, .int l1, .int l2, .int l3, .int l4, .int l5, .int s0]) rfl rfl ?_
  refine rg_p rfl rfl ?_
  refine rg_si (v := (400 : Int32)) rfl (by decide) ?_
  rcases db_e hB with ⟨q1, hB⟩ | ⟨q1, hB⟩
  · refine rg_bt (t := 24) (pc' := 23) rfl rfl q1 ?_
    refine rg_p rfl rfl ?_
    obtain ⟨c2, hB⟩ := dg_e hB
    obtain ⟨r3, p4, hB⟩ := dp_e hB
    refine rg_gp rfl rfl rfl (of_decide_eq_true c2) p4 ?_
    refine rg_p rfl rfl ?_
    refine rg_p rfl rfl ?_
    refine rg_p rfl rfl ?_
    show rg 30 32 _ _ _ _
    rcases di_e hB with ⟨v8, h5, z6, hB⟩ | ⟨q7, h5, z6, hB⟩
    · refine rg_call (rg_s9 (n := 2) (as := [.int l2, .int l3]) (ar := []) rfl (rg_s0 rfl) rfl rfl (Nat.le_of_ble_eq_true rfl) rfl rfl (Nat.le_of_ble_eq_true rfl)) (sF_27 z6) ?_
      obtain ⟨c9, hB⟩ := dg_e hB
      obtain ⟨h10, e11, hB⟩ := dl_e hB
      refine rg_is rfl (ai_of c9) e11 ?_
      refine rg_p rfl rfl ?_
      obtain ⟨c12, hB⟩ := dg_e hB
      obtain ⟨r13, p14, hB⟩ := dp_e hB
      refine rg_gp rfl rfl rfl (of_decide_eq_true c12) p14 ?_
      refine rg_p rfl rfl ?_
      refine rg_p rfl rfl ?_
      show rg 30 43 _ _ _ _
      obtain ⟨c15, hB⟩ := dg_e hB
      obtain ⟨h16, e17, hB⟩ := dl_e hB
      refine rg_is rfl (ai_of c15) e17 ?_
      refine rg_p rfl rfl ?_
      obtain ⟨c18, hB⟩ := dg_e hB
      obtain ⟨r19, p20, hB⟩ := dp_e hB
      refine rg_gp rfl rfl rfl (of_decide_eq_true c18) p20 ?_
      refine rg_p rfl rfl ?_
      refine rg_p rfl rfl ?_
      obtain ⟨c21, hB⟩ := dg_e hB
      obtain ⟨h22, e23, hB⟩ := dl_e hB
      refine rg_is rfl (ai_of c21) e23 ?_
      show rg 30 53 _ _ _ _
      refine rg_p rfl rfl ?_
      obtain ⟨c24, hB⟩ := dg_e hB
      obtain ⟨r25, p26, hB⟩ := dp_e hB
      refine rg_gp rfl rfl rfl (of_decide_eq_true c24) p26 ?_
      refine rg_p rfl rfl ?_
      refine rg_p rfl rfl ?_
      obtain ⟨c27, hB⟩ := dg_e hB
      obtain ⟨h28, e29, hB⟩ := dl_e hB
      refine rg_is rfl (ai_of c27) e29 ?_
      refine rg_p rfl rfl ?_
      show rg 30 63 _ _ _ _
      refine rg_ic (v := (-1 : Int32)) rfl (by decide) ?_
      rcases db_e hB with ⟨q30, hB⟩ | ⟨q30, hB⟩
      · refine rg_bt (t := 77) (pc' := 67) rfl rfl q30 ?_
        exact sB_30_77 f  _ _ _ _ _ _ _ h28 _ hB
      · refine rg_bf (t := 77) (pc' := 67) rfl rfl q30 ?_
        refine rg_p rfl rfl ?_
        refine rg_p rfl rfl ?_
        obtain ⟨c31, hB⟩ := dg_e hB
        refine rg_gz rfl rfl rfl (of_decide_eq_true c31) ?_
        refine rg_ic (v := (1 : Int32)) rfl (by decide) ?_
        refine rg_p rfl rfl ?_
        show rg 30 74 _ _ _ _
        obtain ⟨h32, e33, hB⟩ := dl_e hB
        refine rg_pi rfl rfl rfl (of_decide_eq_true c31) e33 ?_
        exact sB_30_77 f  _ _ _ _ _ _ _ h32 _ hB
    · subst hB
      exact rg_callX (rg_s9 (n := 2) (as := [.int l2, .int l3]) (ar := []) rfl (rg_s0 rfl) rfl rfl (Nat.le_of_ble_eq_true rfl) rfl rfl (Nat.le_of_ble_eq_true rfl)) (sF_27 z6)
  · refine rg_bf (t := 24) (pc' := 23) rfl rfl q1 ?_
    cases hB
    exact rg_rv rfl rfl
def F_30 (f : Nat) (a0 : Nat) (a1 : Int32) (a2 : Int32) (a3 : Int32) (a4 : Int32) (a5 : Int32) (h : hp_T) : Option ev_O := (db (ev_c .ne a1 (-1 : Int32)) (B_30_13 f  a0 a1 a2 a3 a4 a5 a1 h) (dg (decide (hp_k h a0 = some (4, 0))) (B_30_13 f  a0 a1 a2 a3 a4 a5 (hp_z h a0 4) h)))
theorem sF_30 {f : Nat} {a0 : Nat} {a1 : Int32} {a2 : Int32} {a3 : Int32} {a4 : Int32} {a5 : Int32} {h : hp_T} {o : ev_O} (hB : F_30 f a0 a1 a2 a3 a4 a5 h = some o) : rm 30 [.ref a0, .int a1, .int a2, .int a3, .int a4, .int a5] h o := by
  unfold F_30 at hB
  refine rm_in (L := [.ref a0, .int a1, .int a2, .int a3, .int a4, .int a5, .null]) (Nat.le_of_ble_eq_true rfl) rfl ?_
  refine rg_p rfl rfl ?_
  refine rg_ic (v := (-1 : Int32)) rfl (by decide) ?_
  rcases db_e hB with ⟨q1, hB⟩ | ⟨q1, hB⟩
  · refine rg_bt (t := 12) (pc' := 5) rfl rfl q1 ?_
    refine rg_p rfl rfl ?_
    exact sB_30_13 f  _ _ _ _ _ _ _ _ h _ hB
  · refine rg_bf (t := 12) (pc' := 5) rfl rfl q1 ?_
    refine rg_p rfl rfl ?_
    obtain ⟨c2, hB⟩ := dg_e hB
    refine rg_gz rfl rfl rfl (of_decide_eq_true c2) ?_
    refine rg_p (pc' := 13) rfl rfl ?_
    exact sB_30_13 f  _ _ _ _ _ _ _ _ h _ hB
-- 31: RouteHouse$Routes.remove(I)V
def F_31 (f : Nat) (a0 : Nat) (a1 : Int32) (h : hp_T) : Option ev_O := (dg (decide (hp_k h a0 = some (4, 0))) (dl (wz h a0 4 ((hp_z h a0 4) - (1 : Int32))) fun h2 => (dg (decide (hp_k h2 a0 = some (4, 0))) (dp (hp_p h2 a0 0) fun r5 => (dg (aib 64 h2 r5 (hp_z h2 a0 4)) (dg (aib 64 h2 r5 a1) (dl (wz h2 r5 (Int32.toNatClampNeg a1) (hp_z h2 r5 (Int32.toNatClampNeg (hp_z h2 a0 4)))) fun h9 => (dg (decide (hp_k h9 a0 = some (4, 0))) (dp (hp_p h9 a0 1) fun r12 => (dg (aib 64 h9 r12 (hp_z h9 a0 4)) (dg (aib 64 h9 r12 a1) (dl (wz h9 r12 (Int32.toNatClampNeg a1) (hp_z h9 r12 (Int32.toNatClampNeg (hp_z h9 a0 4)))) fun h16 => (dg (decide (hp_k h16 a0 = some (4, 0))) (dp (hp_p h16 a0 2) fun r19 => (dg (aib 64 h16 r19 (hp_z h16 a0 4)) (dg (aib 64 h16 r19 a1) (dl (wz h16 r19 (Int32.toNatClampNeg a1) (hp_z h16 r19 (Int32.toNatClampNeg (hp_z h16 a0 4)))) fun h23 => (dg (decide (hp_k h23 a0 = some (4, 0))) (dp (hp_p h23 a0 3) fun r26 => (dg (aib 64 h23 r26 (hp_z h23 a0 4)) (dg (aib 64 h23 r26 a1) (dl (wz h23 r26 (Int32.toNatClampNeg a1) (hp_z h23 r26 (Int32.toNatClampNeg (hp_z h23 a0 4)))) fun h30 => (some (.inl none, h30))))))))))))))))))))))))
theorem sF_31 {f : Nat} {a0 : Nat} {a1 : Int32} {h : hp_T} {o : ev_O} (hB : F_31 f a0 a1 h = some o) : rm 31 [.ref a0, .int a1] h o := by
  unfold F_31 at hB
  refine rm_in (L := [.ref a0, .int a1]) (Nat.le_of_ble_eq_true rfl) rfl ?_
  refine rg_p rfl rfl ?_
  refine rg_p rfl rfl ?_
  obtain ⟨c1, hB⟩ := dg_e hB
  refine rg_gz rfl rfl rfl (of_decide_eq_true c1) ?_
  refine rg_ic (v := (1 : Int32)) rfl (by decide) ?_
  refine rg_p rfl rfl ?_
  show rg 31 7 _ _ _ _
  obtain ⟨h2, e3, hB⟩ := dl_e hB
  refine rg_pi rfl rfl rfl (of_decide_eq_true c1) e3 ?_
  refine rg_p rfl rfl ?_
  obtain ⟨c4, hB⟩ := dg_e hB
  obtain ⟨r5, p6, hB⟩ := dp_e hB
  refine rg_gp rfl rfl rfl (of_decide_eq_true c4) p6 ?_
  refine rg_p rfl rfl ?_
  refine rg_p rfl rfl ?_
  refine rg_gp rfl rfl rfl (of_decide_eq_true c4) p6 ?_
  show rg 31 19 _ _ _ _
  refine rg_p rfl rfl ?_
  refine rg_gz rfl rfl rfl (of_decide_eq_true c4) ?_
  obtain ⟨c7, hB⟩ := dg_e hB
  refine rg_ia rfl (ai_of c7) ?_
  obtain ⟨c8, hB⟩ := dg_e hB
  obtain ⟨h9, e10, hB⟩ := dl_e hB
  refine rg_is rfl (ai_of c8) e10 ?_
  refine rg_p rfl rfl ?_
  obtain ⟨c11, hB⟩ := dg_e hB
  obtain ⟨r12, p13, hB⟩ := dp_e hB
  refine rg_gp rfl rfl rfl (of_decide_eq_true c11) p13 ?_
  show rg 31 29 _ _ _ _
  refine rg_p rfl rfl ?_
  refine rg_p rfl rfl ?_
  refine rg_gp rfl rfl rfl (of_decide_eq_true c11) p13 ?_
  refine rg_p rfl rfl ?_
  refine rg_gz rfl rfl rfl (of_decide_eq_true c11) ?_
  obtain ⟨c14, hB⟩ := dg_e hB
  refine rg_ia rfl (ai_of c14) ?_
  show rg 31 39 _ _ _ _
  obtain ⟨c15, hB⟩ := dg_e hB
  obtain ⟨h16, e17, hB⟩ := dl_e hB
  refine rg_is rfl (ai_of c15) e17 ?_
  refine rg_p rfl rfl ?_
  obtain ⟨c18, hB⟩ := dg_e hB
  obtain ⟨r19, p20, hB⟩ := dp_e hB
  refine rg_gp rfl rfl rfl (of_decide_eq_true c18) p20 ?_
  refine rg_p rfl rfl ?_
  refine rg_p rfl rfl ?_
  refine rg_gp rfl rfl rfl (of_decide_eq_true c18) p20 ?_
  show rg 31 49 _ _ _ _
  refine rg_p rfl rfl ?_
  refine rg_gz rfl rfl rfl (of_decide_eq_true c18) ?_
  obtain ⟨c21, hB⟩ := dg_e hB
  refine rg_ia rfl (ai_of c21) ?_
  obtain ⟨c22, hB⟩ := dg_e hB
  obtain ⟨h23, e24, hB⟩ := dl_e hB
  refine rg_is rfl (ai_of c22) e24 ?_
  refine rg_p rfl rfl ?_
  obtain ⟨c25, hB⟩ := dg_e hB
  obtain ⟨r26, p27, hB⟩ := dp_e hB
  refine rg_gp rfl rfl rfl (of_decide_eq_true c25) p27 ?_
  show rg 31 59 _ _ _ _
  refine rg_p rfl rfl ?_
  refine rg_p rfl rfl ?_
  refine rg_gp rfl rfl rfl (of_decide_eq_true c25) p27 ?_
  refine rg_p rfl rfl ?_
  refine rg_gz rfl rfl rfl (of_decide_eq_true c25) ?_
  obtain ⟨c28, hB⟩ := dg_e hB
  refine rg_ia rfl (ai_of c28) ?_
  show rg 31 69 _ _ _ _
  obtain ⟨c29, hB⟩ := dg_e hB
  obtain ⟨h30, e31, hB⟩ := dl_e hB
  refine rg_is rfl (ai_of c29) e31 ?_
  cases hB
  exact rg_rv rfl rfl
-- 32: RouteHouse$Waiting.<init>()V
def F_32 (f : Nat) (a0 : Nat) (h : hp_T) : Option ev_O := (dl (hp_new h 2 0 2) fun h1 => (dw (F_7 f h.1.length (68 : Int32) h1) fun h3 => (dg (decide (hp_k h3 a0 = some (5, 0))) (dl (hp_pw h3 a0 0 (some h.1.length)) fun h7 => (dl (hp_new h7 65 (Int32.toNatClampNeg (4000 : Int32)) (Int32.toNatClampNeg (4000 : Int32))) fun h9 => (dg (decide (hp_k h9 a0 = some (5, 0))) (dl (hp_pw h9 a0 1 (some h7.1.length)) fun h12 => (dl (hp_new h12 66 (Int32.toNatClampNeg (500 : Int32)) (Int32.toNatClampNeg (500 : Int32))) fun h14 => (dg (decide (hp_k h14 a0 = some (5, 0))) (dl (hp_pw h14 a0 2 (some h12.1.length)) fun h17 => (some (.inl none, h17))))))))))))
theorem sF_32 {f : Nat} {a0 : Nat} {h : hp_T} {o : ev_O} (hB : F_32 f a0 h = some o) : rm 32 [.ref a0] h o := by
  unfold F_32 at hB
  refine rm_in (L := [.ref a0]) (Nat.le_of_ble_eq_true rfl) rfl ?_
  refine rg_p rfl rfl ?_
  refine rg_oi rfl rfl (Nat.le_of_ble_eq_true rfl) ?_
  refine rg_p rfl rfl ?_
  obtain ⟨h1, e2, hB⟩ := dl_e hB
  refine rg_nw rfl rfl (by decide) e2 ?_
  refine rg_p rfl rfl ?_
  show rg 32 9 _ _ _ _
  refine rg_bi (v := (68 : Int32)) rfl (by decide) ?_
  obtain ⟨h3, z4, hB⟩ := dw_e hB
  refine rg_i9 (n := 1) (b := h.1.length) (as := [.ref h.1.length, .int (68 : Int32)]) rfl rfl rfl (Nat.le_of_ble_eq_true rfl) rfl rfl (Nat.le_of_ble_eq_true rfl) (sF_7 z4) ?_
  obtain ⟨c6, hB⟩ := dg_e hB
  obtain ⟨h7, e8, hB⟩ := dl_e hB
  refine rg_pp rfl rfl rfl (of_decide_eq_true c6) e8 ?_
  refine rg_p rfl rfl ?_
  refine rg_si (v := (4000 : Int32)) rfl (by decide) ?_
  obtain ⟨h9, e10, hB⟩ := dl_e hB
  refine rg_na (t := 65) rfl (by decide) rfl ⟨by decide, by decide⟩ e10 ?_
  obtain ⟨c11, hB⟩ := dg_e hB
  obtain ⟨h12, e13, hB⟩ := dl_e hB
  refine rg_pp rfl rfl rfl (of_decide_eq_true c11) e13 ?_
  show rg 32 26 _ _ _ _
  refine rg_p rfl rfl ?_
  refine rg_si (v := (500 : Int32)) rfl (by decide) ?_
  obtain ⟨h14, e15, hB⟩ := dl_e hB
  refine rg_na (t := 66) rfl (by decide) rfl ⟨by decide, by decide⟩ e15 ?_
  obtain ⟨c16, hB⟩ := dg_e hB
  obtain ⟨h17, e18, hB⟩ := dl_e hB
  refine rg_pp rfl rfl rfl (of_decide_eq_true c16) e18 ?_
  cases hB
  exact rg_rv rfl rfl
-- 33: RouteHouse$Waiting.begin(LRouteHouse$Packet;I)V
def B_33_59 (f : Nat) : Nat → Nat → Int32 → hp_T → Option ev_O
  | 0, _, _, _ => none
  | g + 1, l0, l3, h => (dg (decide (hp_k h l0 = some (5, 0))) (dp (hp_p h l0 2) fun r2 => (dn 66 h r2 fun n4 => (db (ev_c .ge l3 (Int32.ofNat n4)) (some (.inl none, h)) (dg (aib 66 h r2 l3) (dl (wz h r2 (Int32.toNatClampNeg l3) (vp_nar .boolean (0 : Int32))) fun h8 => ((B_33_59 f g) l0 (l3 + (1 : Int32)) h8)))))))
theorem sB_33_59 (f : Nat) : ∀ (g : Nat) (l0 : Nat) (l3 : Int32) (w1 : Value) (w2 : Value) (h : hp_T) (o : ev_O), B_33_59 f g l0 l3 h = some o → rg 33 59 [.ref l0, w1, w2, .int l3] [] h o := by
  intro g
  induction g with
  | zero =>
    intro l0 l3 w1 w2 h o hB
    rw [B_33_59] at hB
    cases hB
  | succ g ih =>
    intro l0 l3 w1 w2 h o hB
    rw [B_33_59] at hB
    refine rg_p rfl rfl ?_
    refine rg_p rfl rfl ?_
    obtain ⟨c1, hB⟩ := dg_e hB
    obtain ⟨r2, p3, hB⟩ := dp_e hB
    refine rg_gp rfl rfl rfl (of_decide_eq_true c1) p3 ?_
    obtain ⟨n4, q5, hB⟩ := dn_e hB
    refine rg_al (t := 66) (by decide) rfl q5 ?_
    rcases db_e hB with ⟨q6, hB⟩ | ⟨q6, hB⟩
    · refine rg_bt (t := 81) (pc' := 68) rfl rfl q6 ?_
      cases hB
      exact rg_rv rfl rfl
    · refine rg_bf (t := 81) (pc' := 68) rfl rfl q6 ?_
      refine rg_p rfl rfl ?_
      refine rg_gp rfl rfl rfl (of_decide_eq_true c1) p3 ?_
      refine rg_p rfl rfl ?_
      refine rg_ic (v := (0 : Int32)) rfl (by decide) ?_
      obtain ⟨c7, hB⟩ := dg_e hB
      obtain ⟨h8, e9, hB⟩ := dl_e hB
      refine rg_bs (t := 66) (ty := .boolean) (by decide) rfl rfl (ai_of c7) e9 ?_
      show rg 33 75 _ _ _ _
      refine rg_p (L' := [.ref l0, w1, w2, .int (l3 + (1 : Int32))]) rfl rfl ?_
      refine rg_p (pc' := 59) rfl rfl ?_
      exact ih _ _ _ _ h8 _ hB
def F_33 (f : Nat) (a0 : Nat) (a1 : Nat) (a2 : Int32) (h : hp_T) : Option ev_O := (dg (decide (hp_k h a1 = some (2, 0))) (di (F_18 f a1 h) fun v5 h2 => (dg (decide (hp_k h2 a0 = some (5, 0))) (dl (wz h2 a0 5 v5) fun h7 => (dg (decide (hp_k h7 a1 = some (2, 0))) (di (F_19 f a1 h7) fun v13 h10 => (dg (decide (hp_k h10 a0 = some (5, 0))) (dl (wz h10 a0 6 v13) fun h15 => (dg (decide (hp_k h15 a1 = some (2, 0))) (di (F_11 f a1 h15) fun v21 h18 => (dg (decide (hp_k h18 a0 = some (5, 0))) (dl (wz h18 a0 7 v21) fun h23 => (dg (decide (hp_k h23 a1 = some (2, 0))) (di (F_17 f a1 h23) fun v29 h26 => (dg (decide (hp_k h26 a0 = some (5, 0))) (dl (wz h26 a0 8 v29) fun h31 => (dg (decide (hp_k h31 a0 = some (5, 0))) (dl (wz h31 a0 9 a2) fun h34 => (dg (decide (hp_k h34 a0 = some (5, 0))) (dl (wz h34 a0 3 (0 : Int32)) fun h37 => (dg (decide (hp_k h37 a0 = some (5, 0))) (dl (wz h37 a0 10 (0 : Int32)) fun h40 => (dg (decide (hp_k h40 a0 = some (5, 0))) (dl (wz h40 a0 11 (0 : Int32)) fun h43 => (dg (decide (hp_k h43 a0 = some (5, 0))) (dl (wz h43 a0 12 (0 : Int32)) fun h46 => (B_33_59 f  f a0 (0 : Int32) h46)))))))))))))))))))))))))))
theorem sF_33 {f : Nat} {a0 : Nat} {a1 : Nat} {a2 : Int32} {h : hp_T} {o : ev_O} (hB : F_33 f a0 a1 a2 h = some o) : rm 33 [.ref a0, .ref a1, .int a2] h o := by
  unfold F_33 at hB
  refine rm_in (L := [.ref a0, .ref a1, .int a2, .null]) (Nat.le_of_ble_eq_true rfl) rfl ?_
  refine rg_p rfl rfl ?_
  refine rg_p rfl rfl ?_
  obtain ⟨c1, hB⟩ := dg_e hB
  rcases di_e hB with ⟨v5, h2, z3, hB⟩ | ⟨q4, h2, z3, hB⟩
  · refine rg_call (rg_v9 (n := 0) (b := a1) (as := [.ref a1]) (ar := []) rfl rfl rfl (Nat.le_of_ble_eq_true rfl) rfl rfl (Nat.le_of_ble_eq_true rfl) (of_decide_eq_true c1)) (sF_18 z3) ?_
    obtain ⟨c6, hB⟩ := dg_e hB
    obtain ⟨h7, e8, hB⟩ := dl_e hB
    refine rg_pi rfl rfl rfl (of_decide_eq_true c6) e8 ?_
    refine rg_p rfl rfl ?_
    refine rg_p rfl rfl ?_
    obtain ⟨c9, hB⟩ := dg_e hB
    rcases di_e hB with ⟨v13, h10, z11, hB⟩ | ⟨q12, h10, z11, hB⟩
    · refine rg_call (rg_v9 (n := 0) (b := a1) (as := [.ref a1]) (ar := []) rfl rfl rfl (Nat.le_of_ble_eq_true rfl) rfl rfl (Nat.le_of_ble_eq_true rfl) (of_decide_eq_true c9)) (sF_19 z11) ?_
      obtain ⟨c14, hB⟩ := dg_e hB
      obtain ⟨h15, e16, hB⟩ := dl_e hB
      refine rg_pi rfl rfl rfl (of_decide_eq_true c14) e16 ?_
      refine rg_p rfl rfl ?_
      refine rg_p rfl rfl ?_
      obtain ⟨c17, hB⟩ := dg_e hB
      rcases di_e hB with ⟨v21, h18, z19, hB⟩ | ⟨q20, h18, z19, hB⟩
      · refine rg_call (rg_v9 (n := 0) (b := a1) (as := [.ref a1]) (ar := []) rfl rfl rfl (Nat.le_of_ble_eq_true rfl) rfl rfl (Nat.le_of_ble_eq_true rfl) (of_decide_eq_true c17)) (sF_11 z19) ?_
        obtain ⟨c22, hB⟩ := dg_e hB
        obtain ⟨h23, e24, hB⟩ := dl_e hB
        refine rg_pi rfl rfl rfl (of_decide_eq_true c22) e24 ?_
        refine rg_p rfl rfl ?_
        refine rg_p rfl rfl ?_
        obtain ⟨c25, hB⟩ := dg_e hB
        rcases di_e hB with ⟨v29, h26, z27, hB⟩ | ⟨q28, h26, z27, hB⟩
        · refine rg_call (rg_v9 (n := 0) (b := a1) (as := [.ref a1]) (ar := []) rfl rfl rfl (Nat.le_of_ble_eq_true rfl) rfl rfl (Nat.le_of_ble_eq_true rfl) (of_decide_eq_true c25)) (sF_17 z27) ?_
          obtain ⟨c30, hB⟩ := dg_e hB
          obtain ⟨h31, e32, hB⟩ := dl_e hB
          refine rg_pi rfl rfl rfl (of_decide_eq_true c30) e32 ?_
          refine rg_p rfl rfl ?_
          refine rg_p rfl rfl ?_
          obtain ⟨c33, hB⟩ := dg_e hB
          obtain ⟨h34, e35, hB⟩ := dl_e hB
          refine rg_pi rfl rfl rfl (of_decide_eq_true c33) e35 ?_
          refine rg_p rfl rfl ?_
          show rg 33 38 _ _ _ _
          refine rg_ic (v := (0 : Int32)) rfl (by decide) ?_
          obtain ⟨c36, hB⟩ := dg_e hB
          obtain ⟨h37, e38, hB⟩ := dl_e hB
          refine rg_pb rfl rfl rfl (of_decide_eq_true c36) dz_0 e38 ?_
          refine rg_p rfl rfl ?_
          refine rg_ic (v := (0 : Int32)) rfl (by decide) ?_
          obtain ⟨c39, hB⟩ := dg_e hB
          obtain ⟨h40, e41, hB⟩ := dl_e hB
          refine rg_pi rfl rfl rfl (of_decide_eq_true c39) e41 ?_
          refine rg_p rfl rfl ?_
          show rg 33 48 _ _ _ _
          refine rg_ic (v := (0 : Int32)) rfl (by decide) ?_
          obtain ⟨c42, hB⟩ := dg_e hB
          obtain ⟨h43, e44, hB⟩ := dl_e hB
          refine rg_pi rfl rfl rfl (of_decide_eq_true c42) e44 ?_
          refine rg_p rfl rfl ?_
          refine rg_ic (v := (0 : Int32)) rfl (by decide) ?_
          obtain ⟨c45, hB⟩ := dg_e hB
          obtain ⟨h46, e47, hB⟩ := dl_e hB
          refine rg_pb rfl rfl rfl (of_decide_eq_true c45) dz_0 e47 ?_
          refine rg_ic (v := (0 : Int32)) rfl (by decide) ?_
          show rg 33 58 _ _ _ _
          refine rg_p (L' := [.ref a0, .ref a1, .int a2, .int (0 : Int32)]) rfl rfl ?_
          exact sB_33_59 f  f _ _ _ _ h46 _ hB
        · subst hB
          exact rg_callX (rg_v9 (n := 0) (b := a1) (as := [.ref a1]) (ar := []) rfl rfl rfl (Nat.le_of_ble_eq_true rfl) rfl rfl (Nat.le_of_ble_eq_true rfl) (of_decide_eq_true c25)) (sF_17 z27)
      · subst hB
        exact rg_callX (rg_v9 (n := 0) (b := a1) (as := [.ref a1]) (ar := []) rfl rfl rfl (Nat.le_of_ble_eq_true rfl) rfl rfl (Nat.le_of_ble_eq_true rfl) (of_decide_eq_true c17)) (sF_11 z19)
    · subst hB
      exact rg_callX (rg_v9 (n := 0) (b := a1) (as := [.ref a1]) (ar := []) rfl rfl rfl (Nat.le_of_ble_eq_true rfl) rfl rfl (Nat.le_of_ble_eq_true rfl) (of_decide_eq_true c9)) (sF_19 z11)
  · subst hB
    exact rg_callX (rg_v9 (n := 0) (b := a1) (as := [.ref a1]) (ar := []) rfl rfl rfl (Nat.le_of_ble_eq_true rfl) rfl rfl (Nat.le_of_ble_eq_true rfl) (of_decide_eq_true c1)) (sF_18 z3)
-- 34: RouteHouse$Waiting.waitsFor(LRouteHouse$Packet;)Z
def B_34_49 (f : Nat) (s0 : Int32) (h : hp_T) : Option ev_O := (dg (dzb s0) (some (.inl (some (.int s0)), h)))
theorem sB_34_49 (f : Nat) (s0 : Int32) (w0 : Value) (w1 : Value) (h : hp_T) (o : ev_O) (hB : B_34_49 f s0 h = some o) : rg 34 49 [w0, w1] [.int s0] h o := by
  unfold B_34_49 at hB
  obtain ⟨c1, hB⟩ := dg_e hB
  cases hB
  exact rg_ri rfl rfl (dz_n (dz_of c1))
def B_34_48 (f : Nat) (h : hp_T) : Option ev_O := (B_34_49 f  (0 : Int32) h)
theorem sB_34_48 (f : Nat) (w0 : Value) (w1 : Value) (h : hp_T) (o : ev_O) (hB : B_34_48 f  h = some o) : rg 34 48 [w0, w1] [] h o := by
  unfold B_34_48 at hB
  refine rg_ic (v := (0 : Int32)) rfl (by decide) ?_
  exact sB_34_49 f  _ _ _ h _ hB
def F_34 (f : Nat) (a0 : Nat) (a1 : Nat) (h : hp_T) : Option ev_O := (dg (decide (hp_k h a0 = some (5, 0))) (dg (decide (hp_k h a1 = some (2, 0))) (di (F_18 f a1 h) fun v6 h3 => (db (ev_c .ne (hp_z h a0 5) v6) (B_34_48 f   h3) (dg (decide (hp_k h3 a0 = some (5, 0))) (dg (decide (hp_k h3 a1 = some (2, 0))) (di (F_19 f a1 h3) fun v13 h10 => (db (ev_c .ne (hp_z h3 a0 6) v13) (B_34_48 f   h10) (dg (decide (hp_k h10 a0 = some (5, 0))) (dg (decide (hp_k h10 a1 = some (2, 0))) (di (F_11 f a1 h10) fun v20 h17 => (db (ev_c .ne (hp_z h10 a0 7) v20) (B_34_48 f   h17) (dg (decide (hp_k h17 a0 = some (5, 0))) (dg (decide (hp_k h17 a1 = some (2, 0))) (di (F_17 f a1 h17) fun v27 h24 => (db (ev_c .ne (hp_z h17 a0 8) v27) (B_34_48 f   h24) (B_34_49 f  (1 : Int32) h24)))))))))))))))))
theorem sF_34 {f : Nat} {a0 : Nat} {a1 : Nat} {h : hp_T} {o : ev_O} (hB : F_34 f a0 a1 h = some o) : rm 34 [.ref a0, .ref a1] h o := by
  unfold F_34 at hB
  refine rm_in (L := [.ref a0, .ref a1]) (Nat.le_of_ble_eq_true rfl) rfl ?_
  refine rg_p rfl rfl ?_
  obtain ⟨c1, hB⟩ := dg_e hB
  refine rg_gz rfl rfl rfl (of_decide_eq_true c1) ?_
  refine rg_p rfl rfl ?_
  obtain ⟨c2, hB⟩ := dg_e hB
  rcases di_e hB with ⟨v6, h3, z4, hB⟩ | ⟨q5, h3, z4, hB⟩
  · refine rg_call (rg_v9 (n := 0) (b := a1) (as := [.ref a1]) (ar := []) rfl rfl rfl (Nat.le_of_ble_eq_true rfl) rfl rfl (Nat.le_of_ble_eq_true rfl) (of_decide_eq_true c2)) (sF_18 z4) ?_
    rcases db_e hB with ⟨q7, hB⟩ | ⟨q7, hB⟩
    · refine rg_bt (t := 48) (pc' := 11) rfl rfl q7 ?_
      exact sB_34_48 f  _ _ h3 _ hB
    · refine rg_bf (t := 48) (pc' := 11) rfl rfl q7 ?_
      refine rg_p rfl rfl ?_
      obtain ⟨c8, hB⟩ := dg_e hB
      refine rg_gz rfl rfl rfl (of_decide_eq_true c8) ?_
      refine rg_p rfl rfl ?_
      obtain ⟨c9, hB⟩ := dg_e hB
      rcases di_e hB with ⟨v13, h10, z11, hB⟩ | ⟨q12, h10, z11, hB⟩
      · refine rg_call (rg_v9 (n := 0) (b := a1) (as := [.ref a1]) (ar := []) rfl rfl rfl (Nat.le_of_ble_eq_true rfl) rfl rfl (Nat.le_of_ble_eq_true rfl) (of_decide_eq_true c9)) (sF_19 z11) ?_
        rcases db_e hB with ⟨q14, hB⟩ | ⟨q14, hB⟩
        · refine rg_bt (t := 48) (pc' := 22) rfl rfl q14 ?_
          exact sB_34_48 f  _ _ h10 _ hB
        · refine rg_bf (t := 48) (pc' := 22) rfl rfl q14 ?_
          refine rg_p rfl rfl ?_
          obtain ⟨c15, hB⟩ := dg_e hB
          refine rg_gz rfl rfl rfl (of_decide_eq_true c15) ?_
          refine rg_p rfl rfl ?_
          obtain ⟨c16, hB⟩ := dg_e hB
          rcases di_e hB with ⟨v20, h17, z18, hB⟩ | ⟨q19, h17, z18, hB⟩
          · refine rg_call (rg_v9 (n := 0) (b := a1) (as := [.ref a1]) (ar := []) rfl rfl rfl (Nat.le_of_ble_eq_true rfl) rfl rfl (Nat.le_of_ble_eq_true rfl) (of_decide_eq_true c16)) (sF_11 z18) ?_
            rcases db_e hB with ⟨q21, hB⟩ | ⟨q21, hB⟩
            · refine rg_bt (t := 48) (pc' := 33) rfl rfl q21 ?_
              exact sB_34_48 f  _ _ h17 _ hB
            · refine rg_bf (t := 48) (pc' := 33) rfl rfl q21 ?_
              refine rg_p rfl rfl ?_
              obtain ⟨c22, hB⟩ := dg_e hB
              refine rg_gz rfl rfl rfl (of_decide_eq_true c22) ?_
              refine rg_p rfl rfl ?_
              obtain ⟨c23, hB⟩ := dg_e hB
              rcases di_e hB with ⟨v27, h24, z25, hB⟩ | ⟨q26, h24, z25, hB⟩
              · refine rg_call (rg_v9 (n := 0) (b := a1) (as := [.ref a1]) (ar := []) rfl rfl rfl (Nat.le_of_ble_eq_true rfl) rfl rfl (Nat.le_of_ble_eq_true rfl) (of_decide_eq_true c23)) (sF_17 z25) ?_
                rcases db_e hB with ⟨q28, hB⟩ | ⟨q28, hB⟩
                · refine rg_bt (t := 48) (pc' := 44) rfl rfl q28 ?_
                  exact sB_34_48 f  _ _ h24 _ hB
                · refine rg_bf (t := 48) (pc' := 44) rfl rfl q28 ?_
                  refine rg_ic (v := (1 : Int32)) rfl (by decide) ?_
                  refine rg_p (pc' := 49) rfl rfl ?_
                  exact sB_34_49 f  _ _ _ h24 _ hB
              · subst hB
                exact rg_callX (rg_v9 (n := 0) (b := a1) (as := [.ref a1]) (ar := []) rfl rfl rfl (Nat.le_of_ble_eq_true rfl) rfl rfl (Nat.le_of_ble_eq_true rfl) (of_decide_eq_true c23)) (sF_17 z25)
          · subst hB
            exact rg_callX (rg_v9 (n := 0) (b := a1) (as := [.ref a1]) (ar := []) rfl rfl rfl (Nat.le_of_ble_eq_true rfl) rfl rfl (Nat.le_of_ble_eq_true rfl) (of_decide_eq_true c16)) (sF_11 z18)
      · subst hB
        exact rg_callX (rg_v9 (n := 0) (b := a1) (as := [.ref a1]) (ar := []) rfl rfl rfl (Nat.le_of_ble_eq_true rfl) rfl rfl (Nat.le_of_ble_eq_true rfl) (of_decide_eq_true c9)) (sF_19 z11)
  · subst hB
    exact rg_callX (rg_v9 (n := 0) (b := a1) (as := [.ref a1]) (ar := []) rfl rfl rfl (Nat.le_of_ble_eq_true rfl) rfl rfl (Nat.le_of_ble_eq_true rfl) (of_decide_eq_true c2)) (sF_18 z4)
-- 35: RouteHouse$Waiting.refuses(LRouteHouse$Packet;)Z
def B_35_47 (f : Nat) (s0 : Int32) (h : hp_T) : Option ev_O := (dg (dzb s0) (some (.inl (some (.int s0)), h)))
theorem sB_35_47 (f : Nat) (s0 : Int32) (w0 : Value) (w1 : Value) (w2 : Value) (h : hp_T) (o : ev_O) (hB : B_35_47 f s0 h = some o) : rg 35 47 [w0, w1, w2] [.int s0] h o := by
  unfold B_35_47 at hB
  obtain ⟨c1, hB⟩ := dg_e hB
  cases hB
  exact rg_ri rfl rfl (dz_n (dz_of c1))
def B_35_46 (f : Nat) (h : hp_T) : Option ev_O := (B_35_47 f  (0 : Int32) h)
theorem sB_35_46 (f : Nat) (w0 : Value) (w1 : Value) (w2 : Value) (h : hp_T) (o : ev_O) (hB : B_35_46 f  h = some o) : rg 35 46 [w0, w1, w2] [] h o := by
  unfold B_35_46 at hB
  refine rg_ic (v := (0 : Int32)) rfl (by decide) ?_
  exact sB_35_47 f  _ _ _ _ h _ hB
def B_35_27 (f : Nat) (l0 : Nat) (l1 : Nat) (l2 : Int32) (h : hp_T) : Option ev_O := (dg (decide (hp_k h l1 = some (2, 0))) (di (F_13 f l1 h) fun v5 h2 => (db (ev_c .ne v5 0) (B_35_46 f   h2) (dg (decide (hp_k h2 l0 = some (5, 0))) (db (ev_c .ge l2 (hp_z h2 l0 11)) (B_35_46 f   h2) (B_35_47 f  (1 : Int32) h2))))))
theorem sB_35_27 (f : Nat) (l0 : Nat) (l1 : Nat) (l2 : Int32) (h : hp_T) (o : ev_O) (hB : B_35_27 f l0 l1 l2 h = some o) : rg 35 27 [.ref l0, .ref l1, .int l2] [] h o := by
  unfold B_35_27 at hB
  refine rg_p rfl rfl ?_
  obtain ⟨c1, hB⟩ := dg_e hB
  rcases di_e hB with ⟨v5, h2, z3, hB⟩ | ⟨q4, h2, z3, hB⟩
  · refine rg_call (rg_v9 (n := 0) (b := l1) (as := [.ref l1]) (ar := []) rfl rfl rfl (Nat.le_of_ble_eq_true rfl) rfl rfl (Nat.le_of_ble_eq_true rfl) (of_decide_eq_true c1)) (sF_13 z3) ?_
    rcases db_e hB with ⟨q6, hB⟩ | ⟨q6, hB⟩
    · refine rg_bt (t := 46) (pc' := 34) rfl rfl q6 ?_
      exact sB_35_46 f  _ _ _ h2 _ hB
    · refine rg_bf (t := 46) (pc' := 34) rfl rfl q6 ?_
      refine rg_p rfl rfl ?_
      refine rg_p rfl rfl ?_
      obtain ⟨c7, hB⟩ := dg_e hB
      refine rg_gz rfl rfl rfl (of_decide_eq_true c7) ?_
      rcases db_e hB with ⟨q8, hB⟩ | ⟨q8, hB⟩
      · refine rg_bt (t := 46) (pc' := 42) rfl rfl q8 ?_
        exact sB_35_46 f  _ _ _ h2 _ hB
      · refine rg_bf (t := 46) (pc' := 42) rfl rfl q8 ?_
        refine rg_ic (v := (1 : Int32)) rfl (by decide) ?_
        refine rg_p (pc' := 47) rfl rfl ?_
        exact sB_35_47 f  _ _ _ _ h2 _ hB
  · subst hB
    exact rg_callX (rg_v9 (n := 0) (b := l1) (as := [.ref l1]) (ar := []) rfl rfl rfl (Nat.le_of_ble_eq_true rfl) rfl rfl (Nat.le_of_ble_eq_true rfl) (of_decide_eq_true c1)) (sF_13 z3)
def F_35 (f : Nat) (a0 : Nat) (a1 : Nat) (h : hp_T) : Option ev_O := (dg (decide (hp_k h a1 = some (2, 0))) (di (F_15 f a1 h) fun v5 h2 => (dg (decide (hp_k h2 a1 = some (2, 0))) (di (F_10 f a1 h2) fun v10 h7 => (dg (decide (hp_k h7 a0 = some (5, 0))) (db (ev_c .eq (hp_z h7 a0 12) 0) (B_35_27 f  a0 a1 (v5 + v10) h7) (db (ev_c .le (v5 + v10) (hp_z h7 a0 11)) (B_35_27 f  a0 a1 (v5 + v10) h7) (some (.inl (some (.int (1 : Int32))), h7)))))))))
theorem sF_35 {f : Nat} {a0 : Nat} {a1 : Nat} {h : hp_T} {o : ev_O} (hB : F_35 f a0 a1 h = some o) : rm 35 [.ref a0, .ref a1] h o := by
  unfold F_35 at hB
  refine rm_in (L := [.ref a0, .ref a1, .null]) (Nat.le_of_ble_eq_true rfl) rfl ?_
  refine rg_p rfl rfl ?_
  obtain ⟨c1, hB⟩ := dg_e hB
  rcases di_e hB with ⟨v5, h2, z3, hB⟩ | ⟨q4, h2, z3, hB⟩
  · refine rg_call (rg_v9 (n := 0) (b := a1) (as := [.ref a1]) (ar := []) rfl rfl rfl (Nat.le_of_ble_eq_true rfl) rfl rfl (Nat.le_of_ble_eq_true rfl) (of_decide_eq_true c1)) (sF_15 z3) ?_
    refine rg_p rfl rfl ?_
    obtain ⟨c6, hB⟩ := dg_e hB
    rcases di_e hB with ⟨v10, h7, z8, hB⟩ | ⟨q9, h7, z8, hB⟩
    · refine rg_call (rg_v9 (n := 0) (b := a1) (as := [.ref a1]) (ar := []) rfl rfl rfl (Nat.le_of_ble_eq_true rfl) rfl rfl (Nat.le_of_ble_eq_true rfl) (of_decide_eq_true c6)) (sF_10 z8) ?_
      refine rg_p rfl rfl ?_
      refine rg_p (L' := [.ref a0, .ref a1, .int (v5 + v10)]) rfl rfl ?_
      refine rg_p rfl rfl ?_
      obtain ⟨c11, hB⟩ := dg_e hB
      refine rg_gz rfl rfl rfl (of_decide_eq_true c11) ?_
      rcases db_e hB with ⟨q12, hB⟩ | ⟨q12, hB⟩
      · refine rg_bt (t := 27) (pc' := 17) rfl rfl q12 ?_
        exact sB_35_27 f  _ _ _ h7 _ hB
      · refine rg_bf (t := 27) (pc' := 17) rfl rfl q12 ?_
        refine rg_p rfl rfl ?_
        refine rg_p rfl rfl ?_
        refine rg_gz rfl rfl rfl (of_decide_eq_true c11) ?_
        rcases db_e hB with ⟨q13, hB⟩ | ⟨q13, hB⟩
        · refine rg_bt (t := 27) (pc' := 25) rfl rfl q13 ?_
          exact sB_35_27 f  _ _ _ h7 _ hB
        · refine rg_bf (t := 27) (pc' := 25) rfl rfl q13 ?_
          refine rg_ic (v := (1 : Int32)) rfl (by decide) ?_
          cases hB
          exact rg_ri rfl rfl (dz_n dz_1)
    · subst hB
      exact rg_callX (rg_v9 (n := 0) (b := a1) (as := [.ref a1]) (ar := []) rfl rfl rfl (Nat.le_of_ble_eq_true rfl) rfl rfl (Nat.le_of_ble_eq_true rfl) (of_decide_eq_true c6)) (sF_10 z8)
  · subst hB
    exact rg_callX (rg_v9 (n := 0) (b := a1) (as := [.ref a1]) (ar := []) rfl rfl rfl (Nat.le_of_ble_eq_true rfl) rfl rfl (Nat.le_of_ble_eq_true rfl) (of_decide_eq_true c1)) (sF_15 z3)
-- 36: RouteHouse$Waiting.add(LRouteHouse$Packet;I)V
def B_36_145 (f : Nat) (h : hp_T) : Option ev_O := (some (.inl none, h))
theorem sB_36_145 (f : Nat) (w0 : Value) (w1 : Value) (w2 : Value) (w3 : Value) (w4 : Value) (w5 : Value) (h : hp_T) (o : ev_O) (hB : B_36_145 f  h = some o) : rg 36 145 [w0, w1, w2, w3, w4, w5] [] h o := by
  unfold B_36_145 at hB
  cases hB
  exact rg_rv rfl rfl
def B_36_108 (f : Nat) (l0 : Nat) (l1 : Nat) (l2 : Int32) (l3 : Int32) (h : hp_T) : Option ev_O := (db (ev_c .ne l3 0) (B_36_145 f   h) (dg (decide (hp_k h l1 = some (2, 0))) (dp (hp_p h l1 0) fun r3 => (dg (decide (hp_k h l0 = some (5, 0))) (dp (hp_p h l0 0) fun r6 => (dg (decide (hp_k h r6 = some (2, 0))) (dp (hp_p h r6 0) fun r9 => (di (F_8 f l1 h) fun v14 h11 => (dg (acb 65 h11 r3 (0 : Int32) r9 (0 : Int32) (v14 + (8 : Int32))) (dl (wc h11 r3 (0 : Int32) r9 (0 : Int32) (v14 + (8 : Int32))) fun h16 => (dg (decide (hp_k h16 l0 = some (5, 0))) (dl (wz h16 l0 3 (1 : Int32)) fun h19 => (dg (decide (hp_k h19 l0 = some (5, 0))) (dl (wz h19 l0 4 l2) fun h22 => (B_36_145 f   h22)))))))))))))))
theorem sB_36_108 (f : Nat) (l0 : Nat) (l1 : Nat) (l2 : Int32) (l3 : Int32) (w4 : Value) (w5 : Value) (h : hp_T) (o : ev_O) (hB : B_36_108 f l0 l1 l2 l3 h = some o) : rg 36 108 [.ref l0, .ref l1, .int l2, .int l3, w4, w5] [] h o := by
  unfold B_36_108 at hB
  refine rg_p rfl rfl ?_
  rcases db_e hB with ⟨q1, hB⟩ | ⟨q1, hB⟩
  · refine rg_bt (t := 145) (pc' := 112) rfl rfl q1 ?_
    exact sB_36_145 f  _ _ _ _ _ _ h _ hB
  · refine rg_bf (t := 145) (pc' := 112) rfl rfl q1 ?_
    refine rg_p rfl rfl ?_
    obtain ⟨c2, hB⟩ := dg_e hB
    obtain ⟨r3, p4, hB⟩ := dp_e hB
    refine rg_gp rfl rfl rfl (of_decide_eq_true c2) p4 ?_
    refine rg_ic (v := (0 : Int32)) rfl (by decide) ?_
    refine rg_p rfl rfl ?_
    obtain ⟨c5, hB⟩ := dg_e hB
    obtain ⟨r6, p7, hB⟩ := dp_e hB
    refine rg_gp rfl rfl rfl (of_decide_eq_true c5) p7 ?_
    show rg 36 121 _ _ _ _
    obtain ⟨c8, hB⟩ := dg_e hB
    obtain ⟨r9, p10, hB⟩ := dp_e hB
    refine rg_gp rfl rfl rfl (of_decide_eq_true c8) p10 ?_
    refine rg_ic (v := (0 : Int32)) rfl (by decide) ?_
    refine rg_p rfl rfl ?_
    rcases di_e hB with ⟨v14, h11, z12, hB⟩ | ⟨q13, h11, z12, hB⟩
    · refine rg_call (rg_v9 (n := 0) (b := l1) (as := [.ref l1]) (ar := []) rfl rfl rfl (Nat.le_of_ble_eq_true rfl) rfl rfl (Nat.le_of_ble_eq_true rfl) (of_decide_eq_true c2)) (sF_8 z12) ?_
      refine rg_bi (v := (8 : Int32)) rfl (by decide) ?_
      refine rg_p rfl rfl ?_
      obtain ⟨c15, hB⟩ := dg_e hB
      obtain ⟨h16, e17, hB⟩ := dl_e hB
      refine rg_cp (t := 65) (by decide) rfl rfl (Nat.le_of_ble_eq_true rfl) (ac_of c15) e17 ?_
      refine rg_p rfl rfl ?_
      refine rg_ic (v := (1 : Int32)) rfl (by decide) ?_
      show rg 36 137 _ _ _ _
      obtain ⟨c18, hB⟩ := dg_e hB
      obtain ⟨h19, e20, hB⟩ := dl_e hB
      refine rg_pb rfl rfl rfl (of_decide_eq_true c18) dz_1 e20 ?_
      refine rg_p rfl rfl ?_
      refine rg_p rfl rfl ?_
      obtain ⟨c21, hB⟩ := dg_e hB
      obtain ⟨h22, e23, hB⟩ := dl_e hB
      refine rg_pi rfl rfl rfl (of_decide_eq_true c21) e23 ?_
      exact sB_36_145 f  _ _ _ _ _ _ h22 _ hB
    · subst hB
      exact rg_callX (rg_v9 (n := 0) (b := l1) (as := [.ref l1]) (ar := []) rfl rfl rfl (Nat.le_of_ble_eq_true rfl) rfl rfl (Nat.le_of_ble_eq_true rfl) (of_decide_eq_true c2)) (sF_8 z12)
def B_36_75 (f : Nat) (C35 : Nat → Nat → Int32 → Int32 → Int32 → Int32 → hp_T → Option ev_O) (l0 : Nat) (l1 : Nat) (l2 : Int32) (l3 : Int32) (l4 : Int32) (l5 : Int32) (h : hp_T) : Option ev_O := (C35 l0 l1 l2 l3 l4 (l5 + (1 : Int32)) h)
theorem sB_36_75 (f : Nat) (C35 : Nat → Nat → Int32 → Int32 → Int32 → Int32 → hp_T → Option ev_O) (hC35 : ∀ (l0 : Nat) (l1 : Nat) (l2 : Int32) (l3 : Int32) (l4 : Int32) (l5 : Int32) (h : hp_T) (o : ev_O), C35 l0 l1 l2 l3 l4 l5 h = some o → rg 36 35 [.ref l0, .ref l1, .int l2, .int l3, .int l4, .int l5] [] h o) (l0 : Nat) (l1 : Nat) (l2 : Int32) (l3 : Int32) (l4 : Int32) (l5 : Int32) (h : hp_T) (o : ev_O) (hB : B_36_75 f C35 l0 l1 l2 l3 l4 l5 h = some o) : rg 36 75 [.ref l0, .ref l1, .int l2, .int l3, .int l4, .int l5] [] h o := by
  unfold B_36_75 at hB
  refine rg_p (L' := [.ref l0, .ref l1, .int l2, .int l3, .int l4, .int (l5 + (1 : Int32))]) rfl rfl ?_
  refine rg_p (pc' := 35) rfl rfl ?_
  exact hC35 _ _ _ _ _ _ h _ hB
def B_36_35 (f : Nat) : Nat → Nat → Nat → Int32 → Int32 → Int32 → Int32 → hp_T → Option ev_O
  | 0, _, _, _, _, _, _, _ => none
  | g + 1, l0, l1, l2, l3, l4, l5, h => (db (ev_c .ge (l5 * (8 : Int32)) (l3 + l4)) (dg (decide (hp_k h l0 = some (5, 0))) (dl (wz h l0 11 (if (hp_z h l0 11) < (l3 + l4) then (l3 + l4) else (hp_z h l0 11))) fun h3 => (dg (decide (hp_k h3 l1 = some (2, 0))) (di (F_13 f l1 h3) fun v9 h6 => (db (ev_c .ne v9 0) (B_36_108 f  l0 l1 l2 l3 h6) (dg (decide (hp_k h6 l0 = some (5, 0))) (dl (wz h6 l0 12 (1 : Int32)) fun h12 => (B_36_108 f  l0 l1 l2 l3 h12)))))))) (dg (decide (hp_k h l0 = some (5, 0))) (dp (hp_p h l0 2) fun r15 => (dg (aib 66 h r15 l5) (db (ev_c .ne (hp_z h r15 (Int32.toNatClampNeg l5)) 0) (B_36_75 f (B_36_35 f g) l0 l1 l2 l3 l4 l5 h) (dl (wz h r15 (Int32.toNatClampNeg l5) (vp_nar .boolean (1 : Int32))) fun h19 => (dg (decide (hp_k h19 l0 = some (5, 0))) (dl (wz h19 l0 10 ((hp_z h19 l0 10) + (1 : Int32))) fun h22 => (B_36_75 f (B_36_35 f g) l0 l1 l2 l3 l4 l5 h22)))))))))
theorem sB_36_35 (f : Nat) : ∀ (g : Nat) (l0 : Nat) (l1 : Nat) (l2 : Int32) (l3 : Int32) (l4 : Int32) (l5 : Int32) (h : hp_T) (o : ev_O), B_36_35 f g l0 l1 l2 l3 l4 l5 h = some o → rg 36 35 [.ref l0, .ref l1, .int l2, .int l3, .int l4, .int l5] [] h o := by
  intro g
  induction g with
  | zero =>
    intro l0 l1 l2 l3 l4 l5  h o hB
    rw [B_36_35] at hB
    cases hB
  | succ g ih =>
    intro l0 l1 l2 l3 l4 l5  h o hB
    rw [B_36_35] at hB
    refine rg_p rfl rfl ?_
    refine rg_bi (v := (8 : Int32)) rfl (by decide) ?_
    refine rg_p rfl rfl ?_
    refine rg_p rfl rfl ?_
    refine rg_p rfl rfl ?_
    show rg 36 43 _ _ _ _
    refine rg_p rfl rfl ?_
    rcases db_e hB with ⟨q1, hB⟩ | ⟨q1, hB⟩
    · refine rg_bt (t := 81) (pc' := 47) rfl rfl q1 ?_
      refine rg_p rfl rfl ?_
      refine rg_p rfl rfl ?_
      obtain ⟨c2, hB⟩ := dg_e hB
      refine rg_gz rfl rfl rfl (of_decide_eq_true c2) ?_
      refine rg_p rfl rfl ?_
      refine rg_p rfl rfl ?_
      show rg 36 89 _ _ _ _
      refine rg_p rfl rfl ?_
      refine rg_mx rfl rfl (Nat.le_of_ble_eq_true rfl) ?_
      obtain ⟨h3, e4, hB⟩ := dl_e hB
      refine rg_pi rfl rfl rfl (of_decide_eq_true c2) e4 ?_
      refine rg_p rfl rfl ?_
      obtain ⟨c5, hB⟩ := dg_e hB
      rcases di_e hB with ⟨v9, h6, z7, hB⟩ | ⟨q8, h6, z7, hB⟩
      · refine rg_call (rg_v9 (n := 0) (b := l1) (as := [.ref l1]) (ar := []) rfl rfl rfl (Nat.le_of_ble_eq_true rfl) rfl rfl (Nat.le_of_ble_eq_true rfl) (of_decide_eq_true c5)) (sF_13 z7) ?_
        rcases db_e hB with ⟨q10, hB⟩ | ⟨q10, hB⟩
        · refine rg_bt (t := 108) (pc' := 103) rfl rfl q10 ?_
          exact sB_36_108 f  _ _ _ _ _ _ h6 _ hB
        · refine rg_bf (t := 108) (pc' := 103) rfl rfl q10 ?_
          refine rg_p rfl rfl ?_
          refine rg_ic (v := (1 : Int32)) rfl (by decide) ?_
          obtain ⟨c11, hB⟩ := dg_e hB
          obtain ⟨h12, e13, hB⟩ := dl_e hB
          refine rg_pb rfl rfl rfl (of_decide_eq_true c11) dz_1 e13 ?_
          exact sB_36_108 f  _ _ _ _ _ _ h12 _ hB
      · subst hB
        exact rg_callX (rg_v9 (n := 0) (b := l1) (as := [.ref l1]) (ar := []) rfl rfl rfl (Nat.le_of_ble_eq_true rfl) rfl rfl (Nat.le_of_ble_eq_true rfl) (of_decide_eq_true c5)) (sF_13 z7)
    · refine rg_bf (t := 81) (pc' := 47) rfl rfl q1 ?_
      refine rg_p rfl rfl ?_
      obtain ⟨c14, hB⟩ := dg_e hB
      obtain ⟨r15, p16, hB⟩ := dp_e hB
      refine rg_gp rfl rfl rfl (of_decide_eq_true c14) p16 ?_
      refine rg_p rfl rfl ?_
      obtain ⟨c17, hB⟩ := dg_e hB
      refine rg_ba (t := 66) (by decide) rfl (ai_of c17) ?_
      rcases db_e hB with ⟨q18, hB⟩ | ⟨q18, hB⟩
      · refine rg_bt (t := 75) (pc' := 57) rfl rfl q18 ?_
        exact sB_36_75 f (B_36_35 f g) ih _ _ _ _ _ _ h _ hB
      · refine rg_bf (t := 75) (pc' := 57) rfl rfl q18 ?_
        refine rg_p rfl rfl ?_
        refine rg_gp rfl rfl rfl (of_decide_eq_true c14) p16 ?_
        refine rg_p rfl rfl ?_
        refine rg_ic (v := (1 : Int32)) rfl (by decide) ?_
        obtain ⟨h19, e20, hB⟩ := dl_e hB
        refine rg_bs (t := 66) (ty := .boolean) (by decide) rfl rfl (ai_of c17) e20 ?_
        show rg 36 65 _ _ _ _
        refine rg_p rfl rfl ?_
        refine rg_p rfl rfl ?_
        obtain ⟨c21, hB⟩ := dg_e hB
        refine rg_gz rfl rfl rfl (of_decide_eq_true c21) ?_
        refine rg_ic (v := (1 : Int32)) rfl (by decide) ?_
        refine rg_p rfl rfl ?_
        obtain ⟨h22, e23, hB⟩ := dl_e hB
        refine rg_pi rfl rfl rfl (of_decide_eq_true c21) e23 ?_
        exact sB_36_75 f (B_36_35 f g) ih _ _ _ _ _ _ h22 _ hB
def F_36 (f : Nat) (a0 : Nat) (a1 : Nat) (a2 : Int32) (h : hp_T) : Option ev_O := (dg (decide (hp_k h a1 = some (2, 0))) (di (F_15 f a1 h) fun v5 h2 => (dg (decide (hp_k h2 a1 = some (2, 0))) (di (F_10 f a1 h2) fun v10 h7 => (dg (decide (hp_k h7 a1 = some (2, 0))) (dp (hp_p h7 a1 0) fun r12 => (di (F_8 f a1 h7) fun v17 h14 => (dg (decide (hp_k h14 a0 = some (5, 0))) (dp (hp_p h14 a0 1) fun r19 => (dg (acb 65 h14 r12 v17 r19 v5 v10) (dl (wc h14 r12 v17 r19 v5 v10) fun h22 => (B_36_35 f  f a0 a1 a2 v5 v10 (v5 / (8 : Int32)) h22))))))))))))
theorem sF_36 {f : Nat} {a0 : Nat} {a1 : Nat} {a2 : Int32} {h : hp_T} {o : ev_O} (hB : F_36 f a0 a1 a2 h = some o) : rm 36 [.ref a0, .ref a1, .int a2] h o := by
  unfold F_36 at hB
  refine rm_in (L := [.ref a0, .ref a1, .int a2, .null, .null, .null]) (Nat.le_of_ble_eq_true rfl) rfl ?_
  refine rg_p rfl rfl ?_
  obtain ⟨c1, hB⟩ := dg_e hB
  rcases di_e hB with ⟨v5, h2, z3, hB⟩ | ⟨q4, h2, z3, hB⟩
  · refine rg_call (rg_v9 (n := 0) (b := a1) (as := [.ref a1]) (ar := []) rfl rfl rfl (Nat.le_of_ble_eq_true rfl) rfl rfl (Nat.le_of_ble_eq_true rfl) (of_decide_eq_true c1)) (sF_15 z3) ?_
    refine rg_p (L' := [.ref a0, .ref a1, .int a2, .int v5, .null, .null]) rfl rfl ?_
    refine rg_p rfl rfl ?_
    obtain ⟨c6, hB⟩ := dg_e hB
    rcases di_e hB with ⟨v10, h7, z8, hB⟩ | ⟨q9, h7, z8, hB⟩
    · refine rg_call (rg_v9 (n := 0) (b := a1) (as := [.ref a1]) (ar := []) rfl rfl rfl (Nat.le_of_ble_eq_true rfl) rfl rfl (Nat.le_of_ble_eq_true rfl) (of_decide_eq_true c6)) (sF_10 z8) ?_
      refine rg_p (L' := [.ref a0, .ref a1, .int a2, .int v5, .int v10, .null]) rfl rfl ?_
      refine rg_p rfl rfl ?_
      obtain ⟨c11, hB⟩ := dg_e hB
      obtain ⟨r12, p13, hB⟩ := dp_e hB
      refine rg_gp rfl rfl rfl (of_decide_eq_true c11) p13 ?_
      refine rg_p rfl rfl ?_
      rcases di_e hB with ⟨v17, h14, z15, hB⟩ | ⟨q16, h14, z15, hB⟩
      · refine rg_call (rg_v9 (n := 0) (b := a1) (as := [.ref a1]) (ar := []) rfl rfl rfl (Nat.le_of_ble_eq_true rfl) rfl rfl (Nat.le_of_ble_eq_true rfl) (of_decide_eq_true c11)) (sF_8 z15) ?_
        refine rg_p rfl rfl ?_
        obtain ⟨c18, hB⟩ := dg_e hB
        obtain ⟨r19, p20, hB⟩ := dp_e hB
        refine rg_gp rfl rfl rfl (of_decide_eq_true c18) p20 ?_
        refine rg_p rfl rfl ?_
        refine rg_p rfl rfl ?_
        obtain ⟨c21, hB⟩ := dg_e hB
        obtain ⟨h22, e23, hB⟩ := dl_e hB
        refine rg_cp (t := 65) (by decide) rfl rfl (Nat.le_of_ble_eq_true rfl) (ac_of c21) e23 ?_
        show rg 36 29 _ _ _ _
        refine rg_p rfl rfl ?_
        refine rg_bi (v := (8 : Int32)) rfl (by decide) ?_
        refine rg_dv rfl (by decide) ?_
        refine rg_p (L' := [.ref a0, .ref a1, .int a2, .int v5, .int v10, .int (v5 / (8 : Int32))]) rfl rfl ?_
        exact sB_36_35 f  f _ _ _ _ _ _ h22 _ hB
      · subst hB
        exact rg_callX (rg_v9 (n := 0) (b := a1) (as := [.ref a1]) (ar := []) rfl rfl rfl (Nat.le_of_ble_eq_true rfl) rfl rfl (Nat.le_of_ble_eq_true rfl) (of_decide_eq_true c11)) (sF_8 z15)
    · subst hB
      exact rg_callX (rg_v9 (n := 0) (b := a1) (as := [.ref a1]) (ar := []) rfl rfl rfl (Nat.le_of_ble_eq_true rfl) rfl rfl (Nat.le_of_ble_eq_true rfl) (of_decide_eq_true c6)) (sF_10 z8)
  · subst hB
    exact rg_callX (rg_v9 (n := 0) (b := a1) (as := [.ref a1]) (ar := []) rfl rfl rfl (Nat.le_of_ble_eq_true rfl) rfl rfl (Nat.le_of_ble_eq_true rfl) (of_decide_eq_true c1)) (sF_15 z3)
-- 37: RouteHouse$Waiting.isComplete()Z
def B_37_26 (f : Nat) (s0 : Int32) (h : hp_T) : Option ev_O := (dg (dzb s0) (some (.inl (some (.int s0)), h)))
theorem sB_37_26 (f : Nat) (s0 : Int32) (w0 : Value) (h : hp_T) (o : ev_O) (hB : B_37_26 f s0 h = some o) : rg 37 26 [w0] [.int s0] h o := by
  unfold B_37_26 at hB
  obtain ⟨c1, hB⟩ := dg_e hB
  cases hB
  exact rg_ri rfl rfl (dz_n (dz_of c1))
def B_37_25 (f : Nat) (h : hp_T) : Option ev_O := (B_37_26 f  (0 : Int32) h)
theorem sB_37_25 (f : Nat) (w0 : Value) (h : hp_T) (o : ev_O) (hB : B_37_25 f  h = some o) : rg 37 25 [w0] [] h o := by
  unfold B_37_25 at hB
  refine rg_ic (v := (0 : Int32)) rfl (by decide) ?_
  exact sB_37_26 f  _ _ h _ hB
def F_37 (f : Nat) (a0 : Nat) (h : hp_T) : Option ev_O := (dg (decide (hp_k h a0 = some (5, 0))) (db (ev_c .eq (hp_z h a0 12) 0) (B_37_25 f   h) (db (ev_c .lt ((hp_z h a0 10) * (8 : Int32)) (hp_z h a0 11)) (B_37_25 f   h) (B_37_26 f  (1 : Int32) h))))
theorem sF_37 {f : Nat} {a0 : Nat} {h : hp_T} {o : ev_O} (hB : F_37 f a0 h = some o) : rm 37 [.ref a0] h o := by
  unfold F_37 at hB
  refine rm_in (L := [.ref a0]) (Nat.le_of_ble_eq_true rfl) rfl ?_
  refine rg_p rfl rfl ?_
  obtain ⟨c1, hB⟩ := dg_e hB
  refine rg_gz rfl rfl rfl (of_decide_eq_true c1) ?_
  rcases db_e hB with ⟨q2, hB⟩ | ⟨q2, hB⟩
  · refine rg_bt (t := 25) (pc' := 7) rfl rfl q2 ?_
    exact sB_37_25 f  _ h _ hB
  · refine rg_bf (t := 25) (pc' := 7) rfl rfl q2 ?_
    refine rg_p rfl rfl ?_
    refine rg_gz rfl rfl rfl (of_decide_eq_true c1) ?_
    refine rg_bi (v := (8 : Int32)) rfl (by decide) ?_
    refine rg_p rfl rfl ?_
    refine rg_p rfl rfl ?_
    show rg 37 15 _ _ _ _
    refine rg_gz rfl rfl rfl (of_decide_eq_true c1) ?_
    rcases db_e hB with ⟨q3, hB⟩ | ⟨q3, hB⟩
    · refine rg_bt (t := 25) (pc' := 21) rfl rfl q3 ?_
      exact sB_37_25 f  _ h _ hB
    · refine rg_bf (t := 25) (pc' := 21) rfl rfl q3 ?_
      refine rg_ic (v := (1 : Int32)) rfl (by decide) ?_
      refine rg_p (pc' := 26) rfl rfl ?_
      exact sB_37_26 f  _ _ h _ hB
-- 38: RouteHouse$Waiting.writeTo(LRouteHouse$Packet;)V
def F_38 (f : Nat) (a0 : Nat) (a1 : Nat) (h : hp_T) : Option ev_O := (dg (decide (hp_k h a1 = some (2, 0))) (dp (hp_p h a1 0) fun r2 => (dg (decide (hp_k h a0 = some (5, 0))) (dp (hp_p h a0 0) fun r5 => (dg (decide (hp_k h r5 = some (2, 0))) (di (F_8 f r5 h) fun v11 h8 => (dg (decide (hp_k h8 a0 = some (5, 0))) (dp (hp_p h8 a0 0) fun r13 => (dg (decide (hp_k h8 r13 = some (2, 0))) (dp (hp_p h8 r13 0) fun r16 => (dg (acb 65 h8 r16 (0 : Int32) r2 (0 : Int32) v11) (dl (wc h8 r16 (0 : Int32) r2 (0 : Int32) v11) fun h19 => (dg (decide (hp_k h19 a0 = some (5, 0))) (dp (hp_p h19 a0 1) fun r22 => (dg (acb 65 h19 r22 (0 : Int32) r2 v11 (hp_z h19 a0 11)) (dl (wc h19 r22 (0 : Int32) r2 v11 (hp_z h19 a0 11)) fun h25 => (dg (decide (hp_k h25 a0 = some (5, 0))) (dv (F_121 f r2 (2 : Int32) (v11 + (hp_z h25 a0 11)) h25) fun h28 => (di (F_119 f r2 (6 : Int32) h28) fun v34 h31 => (dv (F_121 f r2 (6 : Int32) (v34 &&& (-8193 : Int32)) h31) fun h35 => (di (F_123 f r2 (0 : Int32) v11 (10 : Int32) h35) fun v41 h38 => (dv (F_121 f r2 (10 : Int32) v41 h38) fun h42 => (some (.inl none, h42))))))))))))))))))))))))
theorem sF_38 {f : Nat} {a0 : Nat} {a1 : Nat} {h : hp_T} {o : ev_O} (hB : F_38 f a0 a1 h = some o) : rm 38 [.ref a0, .ref a1] h o := by
  unfold F_38 at hB
  refine rm_in (L := [.ref a0, .ref a1, .null, .null]) (Nat.le_of_ble_eq_true rfl) rfl ?_
  refine rg_p rfl rfl ?_
  obtain ⟨c1, hB⟩ := dg_e hB
  obtain ⟨r2, p3, hB⟩ := dp_e hB
  refine rg_gp rfl rfl rfl (of_decide_eq_true c1) p3 ?_
  refine rg_p (L' := [.ref a0, .ref a1, .ref r2, .null]) rfl rfl ?_
  refine rg_p rfl rfl ?_
  obtain ⟨c4, hB⟩ := dg_e hB
  obtain ⟨r5, p6, hB⟩ := dp_e hB
  refine rg_gp rfl rfl rfl (of_decide_eq_true c4) p6 ?_
  show rg 38 9 _ _ _ _
  obtain ⟨c7, hB⟩ := dg_e hB
  rcases di_e hB with ⟨v11, h8, z9, hB⟩ | ⟨q10, h8, z9, hB⟩
  · refine rg_call (rg_v9 (n := 0) (b := r5) (as := [.ref r5]) (ar := []) rfl rfl rfl (Nat.le_of_ble_eq_true rfl) rfl rfl (Nat.le_of_ble_eq_true rfl) (of_decide_eq_true c7)) (sF_8 z9) ?_
    refine rg_p (L' := [.ref a0, .ref a1, .ref r2, .int v11]) rfl rfl ?_
    refine rg_p rfl rfl ?_
    obtain ⟨c12, hB⟩ := dg_e hB
    obtain ⟨r13, p14, hB⟩ := dp_e hB
    refine rg_gp rfl rfl rfl (of_decide_eq_true c12) p14 ?_
    obtain ⟨c15, hB⟩ := dg_e hB
    obtain ⟨r16, p17, hB⟩ := dp_e hB
    refine rg_gp rfl rfl rfl (of_decide_eq_true c15) p17 ?_
    refine rg_ic (v := (0 : Int32)) rfl (by decide) ?_
    show rg 38 21 _ _ _ _
    refine rg_p rfl rfl ?_
    refine rg_ic (v := (0 : Int32)) rfl (by decide) ?_
    refine rg_p rfl rfl ?_
    obtain ⟨c18, hB⟩ := dg_e hB
    obtain ⟨h19, e20, hB⟩ := dl_e hB
    refine rg_cp (t := 65) (by decide) rfl rfl (Nat.le_of_ble_eq_true rfl) (ac_of c18) e20 ?_
    refine rg_p rfl rfl ?_
    obtain ⟨c21, hB⟩ := dg_e hB
    obtain ⟨r22, p23, hB⟩ := dp_e hB
    refine rg_gp rfl rfl rfl (of_decide_eq_true c21) p23 ?_
    show rg 38 31 _ _ _ _
    refine rg_ic (v := (0 : Int32)) rfl (by decide) ?_
    refine rg_p rfl rfl ?_
    refine rg_p rfl rfl ?_
    refine rg_p rfl rfl ?_
    refine rg_gz rfl rfl rfl (of_decide_eq_true c21) ?_
    obtain ⟨c24, hB⟩ := dg_e hB
    obtain ⟨h25, e26, hB⟩ := dl_e hB
    refine rg_cp (t := 65) (by decide) rfl rfl (Nat.le_of_ble_eq_true rfl) (ac_of c24) e26 ?_
    show rg 38 41 _ _ _ _
    refine rg_p rfl rfl ?_
    refine rg_ic (v := (2 : Int32)) rfl (by decide) ?_
    refine rg_p rfl rfl ?_
    refine rg_p rfl rfl ?_
    obtain ⟨c27, hB⟩ := dg_e hB
    refine rg_gz rfl rfl rfl (of_decide_eq_true c27) ?_
    refine rg_p rfl rfl ?_
    show rg 38 49 _ _ _ _
    rcases dv_e hB with ⟨h28, z29, hB⟩ | ⟨q30, h28, z29, hB⟩
    · refine rg_call (rg_s9 (n := 3) (as := [.ref r2, .int (2 : Int32), .int (v11 + (hp_z h25 a0 11))]) (ar := []) rfl (rg_s0 rfl) rfl rfl (Nat.le_of_ble_eq_true rfl) rfl rfl (Nat.le_of_ble_eq_true rfl)) (sF_121 z29) ?_
      refine rg_p rfl rfl ?_
      refine rg_bi (v := (6 : Int32)) rfl (by decide) ?_
      refine rg_p rfl rfl ?_
      refine rg_bi (v := (6 : Int32)) rfl (by decide) ?_
      rcases di_e hB with ⟨v34, h31, z32, hB⟩ | ⟨q33, h31, z32, hB⟩
      · refine rg_call (rg_s9 (n := 2) (as := [.ref r2, .int (6 : Int32)]) (ar := []) rfl (rg_s0 rfl) rfl rfl (Nat.le_of_ble_eq_true rfl) rfl rfl (Nat.le_of_ble_eq_true rfl)) (sF_119 z32) ?_
        refine rg_si (v := (-8193 : Int32)) rfl (by decide) ?_
        refine rg_p rfl rfl ?_
        rcases dv_e hB with ⟨h35, z36, hB⟩ | ⟨q37, h35, z36, hB⟩
        · refine rg_call (rg_s9 (n := 3) (as := [.ref r2, .int (6 : Int32), .int (v34 &&& (-8193 : Int32))]) (ar := []) rfl (rg_s0 rfl) rfl rfl (Nat.le_of_ble_eq_true rfl) rfl rfl (Nat.le_of_ble_eq_true rfl)) (sF_121 z36) ?_
          refine rg_p rfl rfl ?_
          refine rg_bi (v := (10 : Int32)) rfl (by decide) ?_
          refine rg_p rfl rfl ?_
          refine rg_ic (v := (0 : Int32)) rfl (by decide) ?_
          refine rg_p rfl rfl ?_
          show rg 38 74 _ _ _ _
          refine rg_bi (v := (10 : Int32)) rfl (by decide) ?_
          rcases di_e hB with ⟨v41, h38, z39, hB⟩ | ⟨q40, h38, z39, hB⟩
          · refine rg_call (rg_s9 (n := 4) (as := [.ref r2, .int (0 : Int32), .int v11, .int (10 : Int32)]) (ar := []) rfl (rg_s0 rfl) rfl rfl (Nat.le_of_ble_eq_true rfl) rfl rfl (Nat.le_of_ble_eq_true rfl)) (sF_123 z39) ?_
            rcases dv_e hB with ⟨h42, z43, hB⟩ | ⟨q44, h42, z43, hB⟩
            · refine rg_call (rg_s9 (n := 3) (as := [.ref r2, .int (10 : Int32), .int v41]) (ar := []) rfl (rg_s0 rfl) rfl rfl (Nat.le_of_ble_eq_true rfl) rfl rfl (Nat.le_of_ble_eq_true rfl)) (sF_121 z43) ?_
              cases hB
              exact rg_rv rfl rfl
            · subst hB
              exact rg_callX (rg_s9 (n := 3) (as := [.ref r2, .int (10 : Int32), .int v41]) (ar := []) rfl (rg_s0 rfl) rfl rfl (Nat.le_of_ble_eq_true rfl) rfl rfl (Nat.le_of_ble_eq_true rfl)) (sF_121 z43)
          · subst hB
            exact rg_callX (rg_s9 (n := 4) (as := [.ref r2, .int (0 : Int32), .int v11, .int (10 : Int32)]) (ar := []) rfl (rg_s0 rfl) rfl rfl (Nat.le_of_ble_eq_true rfl) rfl rfl (Nat.le_of_ble_eq_true rfl)) (sF_123 z39)
        · subst hB
          exact rg_callX (rg_s9 (n := 3) (as := [.ref r2, .int (6 : Int32), .int (v34 &&& (-8193 : Int32))]) (ar := []) rfl (rg_s0 rfl) rfl rfl (Nat.le_of_ble_eq_true rfl) rfl rfl (Nat.le_of_ble_eq_true rfl)) (sF_121 z36)
      · subst hB
        exact rg_callX (rg_s9 (n := 2) (as := [.ref r2, .int (6 : Int32)]) (ar := []) rfl (rg_s0 rfl) rfl rfl (Nat.le_of_ble_eq_true rfl) rfl rfl (Nat.le_of_ble_eq_true rfl)) (sF_119 z32)
    · subst hB
      exact rg_callX (rg_s9 (n := 3) (as := [.ref r2, .int (2 : Int32), .int (v11 + (hp_z h25 a0 11))]) (ar := []) rfl (rg_s0 rfl) rfl rfl (Nat.le_of_ble_eq_true rfl) rfl rfl (Nat.le_of_ble_eq_true rfl)) (sF_121 z29)
  · subst hB
    exact rg_callX (rg_v9 (n := 0) (b := r5) (as := [.ref r5]) (ar := []) rfl rfl rfl (Nat.le_of_ble_eq_true rfl) rfl rfl (Nat.le_of_ble_eq_true rfl) (of_decide_eq_true c7)) (sF_8 z9)
-- 39: RouteHouse$Waits.<init>()V
def B_39_14 (f : Nat) : Nat → Nat → Int32 → hp_T → Option ev_O
  | 0, _, _, _ => none
  | g + 1, l0, l1, h => (db (ev_c .ge l1 (4 : Int32)) (some (.inl none, h)) (dg (decide (hp_k h l0 = some (6, 0))) (dp (hp_p h l0 0) fun r3 => (dl (hp_new h 5 0 13) fun h5 => (dw (F_32 f h.1.length h5) fun h7 => (dg (aib 105 h7 r3 l1) (dg (decide (hp_k h7 h.1.length = some (5, 0))) (dl (hp_pw h7 r3 (Int32.toNatClampNeg l1) (some h.1.length)) fun h12 => ((B_39_14 f g) l0 (l1 + (1 : Int32)) h12)))))))))
theorem sB_39_14 (f : Nat) : ∀ (g : Nat) (l0 : Nat) (l1 : Int32) (h : hp_T) (o : ev_O), B_39_14 f g l0 l1 h = some o → rg 39 14 [.ref l0, .int l1] [] h o := by
  intro g
  induction g with
  | zero =>
    intro l0 l1  h o hB
    rw [B_39_14] at hB
    cases hB
  | succ g ih =>
    intro l0 l1  h o hB
    rw [B_39_14] at hB
    refine rg_p rfl rfl ?_
    refine rg_ic (v := (4 : Int32)) rfl (by decide) ?_
    rcases db_e hB with ⟨q1, hB⟩ | ⟨q1, hB⟩
    · refine rg_bt (t := 38) (pc' := 19) rfl rfl q1 ?_
      cases hB
      exact rg_rv rfl rfl
    · refine rg_bf (t := 38) (pc' := 19) rfl rfl q1 ?_
      refine rg_p rfl rfl ?_
      obtain ⟨c2, hB⟩ := dg_e hB
      obtain ⟨r3, p4, hB⟩ := dp_e hB
      refine rg_gp rfl rfl rfl (of_decide_eq_true c2) p4 ?_
      refine rg_p rfl rfl ?_
      obtain ⟨h5, e6, hB⟩ := dl_e hB
      refine rg_nw rfl rfl (by decide) e6 ?_
      refine rg_p rfl rfl ?_
      show rg 39 28 _ _ _ _
      obtain ⟨h7, z8, hB⟩ := dw_e hB
      refine rg_i9 (n := 0) (b := h.1.length) (as := [.ref h.1.length]) rfl rfl rfl (Nat.le_of_ble_eq_true rfl) rfl rfl (Nat.le_of_ble_eq_true rfl) (sF_32 z8) ?_
      obtain ⟨c10, hB⟩ := dg_e hB
      obtain ⟨c11, hB⟩ := dg_e hB
      obtain ⟨h12, e13, hB⟩ := dl_e hB
      refine rg_as (t := 5) (by decide) rfl (ai_of c10) (of_decide_eq_true c11) e13 ?_
      refine rg_p (L' := [.ref l0, .int (l1 + (1 : Int32))]) rfl rfl ?_
      refine rg_p (pc' := 14) rfl rfl ?_
      exact ih _ _ h12 _ hB
def F_39 (f : Nat) (a0 : Nat) (h : hp_T) : Option ev_O := (dl (hp_new h 105 (Int32.toNatClampNeg (4 : Int32)) (Int32.toNatClampNeg (4 : Int32))) fun h1 => (dg (decide (hp_k h1 a0 = some (6, 0))) (dl (hp_pw h1 a0 0 (some h.1.length)) fun h4 => (B_39_14 f  f a0 (0 : Int32) h4))))
theorem sF_39 {f : Nat} {a0 : Nat} {h : hp_T} {o : ev_O} (hB : F_39 f a0 h = some o) : rm 39 [.ref a0] h o := by
  unfold F_39 at hB
  refine rm_in (L := [.ref a0, .null]) (Nat.le_of_ble_eq_true rfl) rfl ?_
  refine rg_p rfl rfl ?_
  refine rg_oi rfl rfl (Nat.le_of_ble_eq_true rfl) ?_
  refine rg_p rfl rfl ?_
  refine rg_ic (v := (4 : Int32)) rfl (by decide) ?_
  obtain ⟨h1, e2, hB⟩ := dl_e hB
  refine rg_nq rfl rfl ⟨by decide, by decide⟩ e2 ?_
  show rg 39 9 _ _ _ _
  obtain ⟨c3, hB⟩ := dg_e hB
  obtain ⟨h4, e5, hB⟩ := dl_e hB
  refine rg_pp rfl rfl rfl (of_decide_eq_true c3) e5 ?_
  refine rg_ic (v := (0 : Int32)) rfl (by decide) ?_
  refine rg_p (L' := [.ref a0, .int (0 : Int32)]) rfl rfl ?_
  exact sB_39_14 f  f _ _ h4 _ hB
-- 42: RouteHouse$Waits.remove(I)V
def B_42_19 (f : Nat) : Nat → Nat → Nat → Int32 → hp_T → Option ev_O
  | 0, _, _, _, _ => none
  | g + 1, l0, l2, l3, h => (dg (decide (hp_k h l0 = some (6, 0))) (db (ev_c .ge l3 (hp_z h l0 1)) (dp (hp_p h l0 0) fun r3 => (dg (aib 105 h r3 (hp_z h l0 1)) (dg (decide (hp_k h l2 = some (5, 0))) (dl (hp_pw h r3 (Int32.toNatClampNeg (hp_z h l0 1)) (some l2)) fun h7 => (some (.inl none, h7)))))) (dp (hp_p h l0 0) fun r9 => (dg (aib 105 h r9 (l3 + (1 : Int32))) (dp (hp_p h r9 (Int32.toNatClampNeg (l3 + (1 : Int32)))) fun r12 => (dg (aib 105 h r9 l3) (dg (decide (hp_k h r12 = some (5, 0))) (dl (hp_pw h r9 (Int32.toNatClampNeg l3) (some r12)) fun h16 => ((B_42_19 f g) l0 l2 (l3 + (1 : Int32)) h16)))))))))
theorem sB_42_19 (f : Nat) : ∀ (g : Nat) (l0 : Nat) (l2 : Nat) (l3 : Int32) (w1 : Value) (h : hp_T) (o : ev_O), B_42_19 f g l0 l2 l3 h = some o → rg 42 19 [.ref l0, w1, .ref l2, .int l3] [] h o := by
  intro g
  induction g with
  | zero =>
    intro l0 l2 l3 w1 h o hB
    rw [B_42_19] at hB
    cases hB
  | succ g ih =>
    intro l0 l2 l3 w1 h o hB
    rw [B_42_19] at hB
    refine rg_p rfl rfl ?_
    refine rg_p rfl rfl ?_
    obtain ⟨c1, hB⟩ := dg_e hB
    refine rg_gz rfl rfl rfl (of_decide_eq_true c1) ?_
    rcases db_e hB with ⟨q2, hB⟩ | ⟨q2, hB⟩
    · refine rg_bt (t := 47) (pc' := 27) rfl rfl q2 ?_
      refine rg_p rfl rfl ?_
      obtain ⟨r3, p4, hB⟩ := dp_e hB
      refine rg_gp rfl rfl rfl (of_decide_eq_true c1) p4 ?_
      refine rg_p rfl rfl ?_
      refine rg_gz rfl rfl rfl (of_decide_eq_true c1) ?_
      refine rg_p rfl rfl ?_
      show rg 42 56 _ _ _ _
      obtain ⟨c5, hB⟩ := dg_e hB
      obtain ⟨c6, hB⟩ := dg_e hB
      obtain ⟨h7, e8, hB⟩ := dl_e hB
      refine rg_as (t := 5) (by decide) rfl (ai_of c5) (of_decide_eq_true c6) e8 ?_
      cases hB
      exact rg_rv rfl rfl
    · refine rg_bf (t := 47) (pc' := 27) rfl rfl q2 ?_
      refine rg_p rfl rfl ?_
      obtain ⟨r9, p10, hB⟩ := dp_e hB
      refine rg_gp rfl rfl rfl (of_decide_eq_true c1) p10 ?_
      refine rg_p rfl rfl ?_
      refine rg_p rfl rfl ?_
      refine rg_gp rfl rfl rfl (of_decide_eq_true c1) p10 ?_
      show rg 42 36 _ _ _ _
      refine rg_p rfl rfl ?_
      refine rg_ic (v := (1 : Int32)) rfl (by decide) ?_
      refine rg_p rfl rfl ?_
      obtain ⟨c11, hB⟩ := dg_e hB
      obtain ⟨r12, p13, hB⟩ := dp_e hB
      refine rg_aa (t := 105) (by decide) rfl (ai_of c11) p13 ?_
      obtain ⟨c14, hB⟩ := dg_e hB
      obtain ⟨c15, hB⟩ := dg_e hB
      obtain ⟨h16, e17, hB⟩ := dl_e hB
      refine rg_as (t := 5) (by decide) rfl (ai_of c14) (of_decide_eq_true c15) e17 ?_
      refine rg_p (L' := [.ref l0, w1, .ref l2, .int (l3 + (1 : Int32))]) rfl rfl ?_
      show rg 42 44 _ _ _ _
      refine rg_p (pc' := 19) rfl rfl ?_
      exact ih _ _ _ _ h16 _ hB
def F_42 (f : Nat) (a0 : Nat) (a1 : Int32) (h : hp_T) : Option ev_O := (dg (decide (hp_k h a0 = some (6, 0))) (dp (hp_p h a0 0) fun r2 => (dg (aib 105 h r2 a1) (dp (hp_p h r2 (Int32.toNatClampNeg a1)) fun r5 => (dl (wz h a0 1 ((hp_z h a0 1) - (1 : Int32))) fun h7 => (B_42_19 f  f a0 r5 a1 h7))))))
theorem sF_42 {f : Nat} {a0 : Nat} {a1 : Int32} {h : hp_T} {o : ev_O} (hB : F_42 f a0 a1 h = some o) : rm 42 [.ref a0, .int a1] h o := by
  unfold F_42 at hB
  refine rm_in (L := [.ref a0, .int a1, .null, .null]) (Nat.le_of_ble_eq_true rfl) rfl ?_
  refine rg_p rfl rfl ?_
  obtain ⟨c1, hB⟩ := dg_e hB
  obtain ⟨r2, p3, hB⟩ := dp_e hB
  refine rg_gp rfl rfl rfl (of_decide_eq_true c1) p3 ?_
  refine rg_p rfl rfl ?_
  obtain ⟨c4, hB⟩ := dg_e hB
  obtain ⟨r5, p6, hB⟩ := dp_e hB
  refine rg_aa (t := 105) (by decide) rfl (ai_of c4) p6 ?_
  refine rg_p (L' := [.ref a0, .int a1, .ref r5, .null]) rfl rfl ?_
  show rg 42 7 _ _ _ _
  refine rg_p rfl rfl ?_
  refine rg_p rfl rfl ?_
  refine rg_gz rfl rfl rfl (of_decide_eq_true c1) ?_
  refine rg_ic (v := (1 : Int32)) rfl (by decide) ?_
  refine rg_p rfl rfl ?_
  obtain ⟨h7, e8, hB⟩ := dl_e hB
  refine rg_pi rfl rfl rfl (of_decide_eq_true c1) e8 ?_
  show rg 42 17 _ _ _ _
  refine rg_p rfl rfl ?_
  refine rg_p (L' := [.ref a0, .int a1, .ref r5, .int a1]) rfl rfl ?_
  exact sB_42_19 f  f _ _ _ _ h7 _ hB
