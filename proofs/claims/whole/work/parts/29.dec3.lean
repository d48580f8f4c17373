-- 43: RouteHouse$Waits.find(LRouteHouse$Packet;)I
def B_43_2 (f : Nat) : Nat → Nat → Nat → Int32 → hp_T → Option ev_O
  | 0, _, _, _, _ => none
  | g + 1, l0, l1, l2, h => (dg (decide (hp_k h l0 = some (6, 0))) (db (ev_c .ge l2 (hp_z h l0 1)) (some (.inl (some (.int (-1 : Int32))), h)) (dp (hp_p h l0 0) fun r3 => (dg (aib 105 h r3 l2) (dp (hp_p h r3 (Int32.toNatClampNeg l2)) fun r6 => (dg (decide (hp_k h r6 = some (5, 0))) (di (F_34 f r6 l1 h) fun v12 h9 => (db (ev_c .eq v12 0) ((B_43_2 f g) l0 l1 (l2 + (1 : Int32)) h9) (some (.inl (some (.int l2)), h9))))))))))
theorem sB_43_2 (f : Nat) : ∀ (g : Nat) (l0 : Nat) (l1 : Nat) (l2 : Int32) (h : hp_T) (o : ev_O), B_43_2 f g l0 l1 l2 h = some o → rg 43 2 [.ref l0, .ref l1, .int l2] [] h o := by
  intro g
  induction g with
  | zero =>
    intro l0 l1 l2  h o hB
    rw [B_43_2] at hB
    cases hB
  | succ g ih =>
    intro l0 l1 l2  h o hB
    rw [B_43_2] at hB
    refine rg_p rfl rfl ?_
    refine rg_p rfl rfl ?_
    obtain ⟨c1, hB⟩ := dg_e hB
    refine rg_gz rfl rfl rfl (of_decide_eq_true c1) ?_
    rcases db_e hB with ⟨q2, hB⟩ | ⟨q2, hB⟩
    · refine rg_bt (t := 31) (pc' := 10) rfl rfl q2 ?_
      refine rg_ic (v := (-1 : Int32)) rfl (by decide) ?_
      cases hB
      exact rg_ri rfl rfl rfl
    · refine rg_bf (t := 31) (pc' := 10) rfl rfl q2 ?_
      refine rg_p rfl rfl ?_
      obtain ⟨r3, p4, hB⟩ := dp_e hB
      refine rg_gp rfl rfl rfl (of_decide_eq_true c1) p4 ?_
      refine rg_p rfl rfl ?_
      obtain ⟨c5, hB⟩ := dg_e hB
      obtain ⟨r6, p7, hB⟩ := dp_e hB
      refine rg_aa (t := 105) (by decide) rfl (ai_of c5) p7 ?_
      refine rg_p rfl rfl ?_
      show rg 43 17 _ _ _ _
      obtain ⟨c8, hB⟩ := dg_e hB
      rcases di_e hB with ⟨v12, h9, z10, hB⟩ | ⟨q11, h9, z10, hB⟩
      · refine rg_call (rg_v9 (n := 1) (b := r6) (as := [.ref r6, .ref l1]) (ar := []) rfl rfl rfl (Nat.le_of_ble_eq_true rfl) rfl rfl (Nat.le_of_ble_eq_true rfl) (of_decide_eq_true c8)) (sF_34 z10) ?_
        rcases db_e hB with ⟨q13, hB⟩ | ⟨q13, hB⟩
        · refine rg_bt (t := 25) (pc' := 23) rfl rfl q13 ?_
          refine rg_p (L' := [.ref l0, .ref l1, .int (l2 + (1 : Int32))]) rfl rfl ?_
          refine rg_p (pc' := 2) rfl rfl ?_
          exact ih _ _ _ h9 _ hB
        · refine rg_bf (t := 25) (pc' := 23) rfl rfl q13 ?_
          refine rg_p rfl rfl ?_
          cases hB
          exact rg_ri rfl rfl rfl
      · subst hB
        exact rg_callX (rg_v9 (n := 1) (b := r6) (as := [.ref r6, .ref l1]) (ar := []) rfl rfl rfl (Nat.le_of_ble_eq_true rfl) rfl rfl (Nat.le_of_ble_eq_true rfl) (of_decide_eq_true c8)) (sF_34 z10)
def F_43 (f : Nat) (a0 : Nat) (a1 : Nat) (h : hp_T) : Option ev_O := (B_43_2 f  f a0 a1 (0 : Int32) h)
theorem sF_43 {f : Nat} {a0 : Nat} {a1 : Nat} {h : hp_T} {o : ev_O} (hB : F_43 f a0 a1 h = some o) : rm 43 [.ref a0, .ref a1] h o := by
  unfold F_43 at hB
  refine rm_in (L := [.ref a0, .ref a1, .null]) (Nat.le_of_ble_eq_true rfl) rfl ?_
  refine rg_ic (v := (0 : Int32)) rfl (by decide) ?_
  refine rg_p (L' := [.ref a0, .ref a1, .int (0 : Int32)]) rfl rfl ?_
  exact sB_43_2 f  f _ _ _ h _ hB
-- 44: RouteHouse$Waits.isWrong(LRouteHouse$Packet;)Z
def B_44_40 (f : Nat) (s0 : Int32) (h : hp_T) : Option ev_O := (dg (dzb s0) (some (.inl (some (.int s0)), h)))
theorem sB_44_40 (f : Nat) (s0 : Int32) (w0 : Value) (w1 : Value) (w2 : Value) (h : hp_T) (o : ev_O) (hB : B_44_40 f s0 h = some o) : rg 44 40 [w0, w1, w2] [.int s0] h o := by
  unfold B_44_40 at hB
  obtain ⟨c1, hB⟩ := dg_e hB
  cases hB
  exact rg_ri rfl rfl (dz_n (dz_of c1))
def B_44_35 (f : Nat) (h : hp_T) : Option ev_O := (B_44_40 f  (1 : Int32) h)
theorem sB_44_35 (f : Nat) (w0 : Value) (w1 : Value) (w2 : Value) (h : hp_T) (o : ev_O) (hB : B_44_35 f  h = some o) : rg 44 35 [w0, w1, w2] [] h o := by
  unfold B_44_35 at hB
  refine rg_ic (v := (1 : Int32)) rfl (by decide) ?_
  refine rg_p (pc' := 40) rfl rfl ?_
  exact sB_44_40 f  _ _ _ _ h _ hB
def B_44_23 (f : Nat) (l1 : Nat) (l2 : Int32) (h : hp_T) : Option ev_O := (dg (decide (hp_k h l1 = some (2, 0))) (di (F_15 f l1 h) fun v5 h2 => (db (ev_c .le (v5 + l2) (4000 : Int32)) (B_44_40 f  (0 : Int32) h2) (B_44_35 f   h2))))
theorem sB_44_23 (f : Nat) (l1 : Nat) (l2 : Int32) (w0 : Value) (h : hp_T) (o : ev_O) (hB : B_44_23 f l1 l2 h = some o) : rg 44 23 [w0, .ref l1, .int l2] [] h o := by
  unfold B_44_23 at hB
  refine rg_p rfl rfl ?_
  obtain ⟨c1, hB⟩ := dg_e hB
  rcases di_e hB with ⟨v5, h2, z3, hB⟩ | ⟨q4, h2, z3, hB⟩
  · refine rg_call (rg_v9 (n := 0) (b := l1) (as := [.ref l1]) (ar := []) rfl rfl rfl (Nat.le_of_ble_eq_true rfl) rfl rfl (Nat.le_of_ble_eq_true rfl) (of_decide_eq_true c1)) (sF_15 z3) ?_
    refine rg_p rfl rfl ?_
    refine rg_p rfl rfl ?_
    refine rg_si (v := (4000 : Int32)) rfl (by decide) ?_
    rcases db_e hB with ⟨q6, hB⟩ | ⟨q6, hB⟩
    · refine rg_bt (t := 39) (pc' := 35) rfl rfl q6 ?_
      refine rg_ic (v := (0 : Int32)) rfl (by decide) ?_
      exact sB_44_40 f  _ _ _ _ h2 _ hB
    · refine rg_bf (t := 39) (pc' := 35) rfl rfl q6 ?_
      exact sB_44_35 f  _ _ _ h2 _ hB
  · subst hB
    exact rg_callX (rg_v9 (n := 0) (b := l1) (as := [.ref l1]) (ar := []) rfl rfl rfl (Nat.le_of_ble_eq_true rfl) rfl rfl (Nat.le_of_ble_eq_true rfl) (of_decide_eq_true c1)) (sF_15 z3)
def F_44 (f : Nat) (a0 : Nat) (a1 : Nat) (h : hp_T) : Option ev_O := (dg (decide (hp_k h a1 = some (2, 0))) (di (F_10 f a1 h) fun v5 h2 => (db (ev_c .eq v5 0) (B_44_35 f   h2) (dg (decide (hp_k h2 a1 = some (2, 0))) (di (F_13 f a1 h2) fun v11 h8 => (db (ev_c .eq v11 0) (B_44_23 f  a1 v5 h8) (db (ev_c .ne (v5 - v5 / (8 : Int32) * (8 : Int32)) 0) (B_44_35 f   h8) (B_44_23 f  a1 v5 h8))))))))
theorem sF_44 {f : Nat} {a0 : Nat} {a1 : Nat} {h : hp_T} {o : ev_O} (hB : F_44 f a0 a1 h = some o) : rm 44 [.ref a0, .ref a1] h o := by
  unfold F_44 at hB
  refine rm_in (L := [.ref a0, .ref a1, .null]) (Nat.le_of_ble_eq_true rfl) rfl ?_
  refine rg_p rfl rfl ?_
  obtain ⟨c1, hB⟩ := dg_e hB
  rcases di_e hB with ⟨v5, h2, z3, hB⟩ | ⟨q4, h2, z3, hB⟩
  · refine rg_call (rg_v9 (n := 0) (b := a1) (as := [.ref a1]) (ar := []) rfl rfl rfl (Nat.le_of_ble_eq_true rfl) rfl rfl (Nat.le_of_ble_eq_true rfl) (of_decide_eq_true c1)) (sF_10 z3) ?_
    refine rg_p (L' := [.ref a0, .ref a1, .int v5]) rfl rfl ?_
    refine rg_p rfl rfl ?_
    rcases db_e hB with ⟨q6, hB⟩ | ⟨q6, hB⟩
    · refine rg_bt (t := 35) (pc' := 9) rfl rfl q6 ?_
      exact sB_44_35 f  _ _ _ h2 _ hB
    · refine rg_bf (t := 35) (pc' := 9) rfl rfl q6 ?_
      refine rg_p rfl rfl ?_
      obtain ⟨c7, hB⟩ := dg_e hB
      rcases di_e hB with ⟨v11, h8, z9, hB⟩ | ⟨q10, h8, z9, hB⟩
      · refine rg_call (rg_v9 (n := 0) (b := a1) (as := [.ref a1]) (ar := []) rfl rfl rfl (Nat.le_of_ble_eq_true rfl) rfl rfl (Nat.le_of_ble_eq_true rfl) (of_decide_eq_true c7)) (sF_13 z9) ?_
        rcases db_e hB with ⟨q12, hB⟩ | ⟨q12, hB⟩
        · refine rg_bt (t := 23) (pc' := 16) rfl rfl q12 ?_
          exact sB_44_23 f  _ _ _ h8 _ hB
        · refine rg_bf (t := 23) (pc' := 16) rfl rfl q12 ?_
          refine rg_p rfl rfl ?_
          refine rg_bi (v := (8 : Int32)) rfl (by decide) ?_
          refine rg_rm rfl (by decide) ?_
          rcases db_e hB with ⟨q13, hB⟩ | ⟨q13, hB⟩
          · refine rg_bt (t := 35) (pc' := 23) rfl rfl q13 ?_
            exact sB_44_35 f  _ _ _ h8 _ hB
          · refine rg_bf (t := 35) (pc' := 23) rfl rfl q13 ?_
            exact sB_44_23 f  _ _ _ h8 _ hB
      · subst hB
        exact rg_callX (rg_v9 (n := 0) (b := a1) (as := [.ref a1]) (ar := []) rfl rfl rfl (Nat.le_of_ble_eq_true rfl) rfl rfl (Nat.le_of_ble_eq_true rfl) (of_decide_eq_true c7)) (sF_13 z9)
  · subst hB
    exact rg_callX (rg_v9 (n := 0) (b := a1) (as := [.ref a1]) (ar := []) rfl rfl rfl (Nat.le_of_ble_eq_true rfl) rfl rfl (Nat.le_of_ble_eq_true rfl) (of_decide_eq_true c1)) (sF_10 z3)
-- 45: RouteHouse$Waits.begin(LRouteHouse$Packet;I)I
def B_45_13 (f : Nat) (l0 : Nat) (l1 : Nat) (l2 : Int32) (h : hp_T) : Option ev_O := (dg (decide (hp_k h l0 = some (6, 0))) (dp (hp_p h l0 0) fun r2 => (dg (aib 105 h r2 (hp_z h l0 1)) (dp (hp_p h r2 (Int32.toNatClampNeg (hp_z h l0 1))) fun r5 => (dg (decide (hp_k h r5 = some (5, 0))) (dv (F_33 f r5 l1 l2 h) fun h8 => (dg (decide (hp_k h8 l0 = some (6, 0))) (dl (wz h8 l0 1 ((hp_z h8 l0 1) + (1 : Int32))) fun h12 => (dg (decide (hp_k h12 l0 = some (6, 0))) (some (.inl (some (.int ((hp_z h12 l0 1) - (1 : Int32)))), h12)))))))))))
theorem sB_45_13 (f : Nat) (l0 : Nat) (l1 : Nat) (l2 : Int32) (h : hp_T) (o : ev_O) (hB : B_45_13 f l0 l1 l2 h = some o) : rg 45 13 [.ref l0, .ref l1, .int l2] [] h o := by
  unfold B_45_13 at hB
  refine rg_p rfl rfl ?_
  obtain ⟨c1, hB⟩ := dg_e hB
  obtain ⟨r2, p3, hB⟩ := dp_e hB
  refine rg_gp rfl rfl rfl (of_decide_eq_true c1) p3 ?_
  refine rg_p rfl rfl ?_
  refine rg_gz rfl rfl rfl (of_decide_eq_true c1) ?_
  obtain ⟨c4, hB⟩ := dg_e hB
  obtain ⟨r5, p6, hB⟩ := dp_e hB
  refine rg_aa (t := 105) (by decide) rfl (ai_of c4) p6 ?_
  show rg 45 22 _ _ _ _
  refine rg_p rfl rfl ?_
  refine rg_p rfl rfl ?_
  obtain ⟨c7, hB⟩ := dg_e hB
  rcases dv_e hB with ⟨h8, z9, hB⟩ | ⟨q10, h8, z9, hB⟩
  · refine rg_call (rg_v9 (n := 2) (b := r5) (as := [.ref r5, .ref l1, .int l2]) (ar := []) rfl rfl rfl (Nat.le_of_ble_eq_true rfl) rfl rfl (Nat.le_of_ble_eq_true rfl) (of_decide_eq_true c7)) (sF_33 z9) ?_
    refine rg_p rfl rfl ?_
    refine rg_p rfl rfl ?_
    obtain ⟨c11, hB⟩ := dg_e hB
    refine rg_gz rfl rfl rfl (of_decide_eq_true c11) ?_
    refine rg_ic (v := (1 : Int32)) rfl (by decide) ?_
    refine rg_p rfl rfl ?_
    show rg 45 34 _ _ _ _
    obtain ⟨h12, e13, hB⟩ := dl_e hB
    refine rg_pi rfl rfl rfl (of_decide_eq_true c11) e13 ?_
    refine rg_p rfl rfl ?_
    obtain ⟨c14, hB⟩ := dg_e hB
    refine rg_gz rfl rfl rfl (of_decide_eq_true c14) ?_
    refine rg_ic (v := (1 : Int32)) rfl (by decide) ?_
    refine rg_p rfl rfl ?_
    cases hB
    exact rg_ri rfl rfl rfl
  · subst hB
    exact rg_callX (rg_v9 (n := 2) (b := r5) (as := [.ref r5, .ref l1, .int l2]) (ar := []) rfl rfl rfl (Nat.le_of_ble_eq_true rfl) rfl rfl (Nat.le_of_ble_eq_true rfl) (of_decide_eq_true c7)) (sF_33 z9)
def F_45 (f : Nat) (a0 : Nat) (a1 : Nat) (a2 : Int32) (h : hp_T) : Option ev_O := (dg (decide (hp_k h a0 = some (6, 0))) (db (ev_c .lt (hp_z h a0 1) (4 : Int32)) (B_45_13 f  a0 a1 a2 h) (dv (F_42 f a0 (0 : Int32) h) fun h3 => (B_45_13 f  a0 a1 a2 h3))))
theorem sF_45 {f : Nat} {a0 : Nat} {a1 : Nat} {a2 : Int32} {h : hp_T} {o : ev_O} (hB : F_45 f a0 a1 a2 h = some o) : rm 45 [.ref a0, .ref a1, .int a2] h o := by
  unfold F_45 at hB
  refine rm_in (L := [.ref a0, .ref a1, .int a2]) (Nat.le_of_ble_eq_true rfl) rfl ?_
  refine rg_p rfl rfl ?_
  obtain ⟨c1, hB⟩ := dg_e hB
  refine rg_gz rfl rfl rfl (of_decide_eq_true c1) ?_
  refine rg_ic (v := (4 : Int32)) rfl (by decide) ?_
  rcases db_e hB with ⟨q2, hB⟩ | ⟨q2, hB⟩
  · refine rg_bt (t := 13) (pc' := 8) rfl rfl q2 ?_
    exact sB_45_13 f  _ _ _ h _ hB
  · refine rg_bf (t := 13) (pc' := 8) rfl rfl q2 ?_
    refine rg_p rfl rfl ?_
    refine rg_ic (v := (0 : Int32)) rfl (by decide) ?_
    rcases dv_e hB with ⟨h3, z4, hB⟩ | ⟨q5, h3, z4, hB⟩
    · refine rg_call (rg_v9 (n := 1) (b := a0) (as := [.ref a0, .int (0 : Int32)]) (ar := []) rfl rfl rfl (Nat.le_of_ble_eq_true rfl) rfl rfl (Nat.le_of_ble_eq_true rfl) (of_decide_eq_true c1)) (sF_42 z4) ?_
      exact sB_45_13 f  _ _ _ h3 _ hB
    · subst hB
      exact rg_callX (rg_v9 (n := 1) (b := a0) (as := [.ref a0, .int (0 : Int32)]) (ar := []) rfl rfl rfl (Nat.le_of_ble_eq_true rfl) rfl rfl (Nat.le_of_ble_eq_true rfl) (of_decide_eq_true c1)) (sF_42 z4)
-- 40: RouteHouse$Waits.completes(LRouteHouse$Packet;IILRouteHouse$Packet;)Z
def B_40_63 (f : Nat) (l0 : Nat) (l1 : Nat) (l2 : Int32) (l4 : Nat) (l5 : Int32) (h : hp_T) : Option ev_O := (dg (decide (hp_k h l0 = some (6, 0))) (dp (hp_p h l0 0) fun r2 => (dg (aib 105 h r2 l5) (dp (hp_p h r2 (Int32.toNatClampNeg l5)) fun r5 => (dg (decide (hp_k h r5 = some (5, 0))) (dv (F_36 f r5 l1 l2 h) fun h8 => (dg (decide (hp_k h8 r5 = some (5, 0))) (di (F_37 f r5 h8) fun v15 h12 => (db (ev_c .ne v15 0) (dg (decide (hp_k h12 r5 = some (5, 0))) (dv (F_38 f r5 l4 h12) fun h18 => (dg (decide (hp_k h18 l0 = some (6, 0))) (dv (F_42 f l0 l5 h18) fun h22 => (some (.inl (some (.int (1 : Int32))), h22)))))) (some (.inl (some (.int (0 : Int32))), h12)))))))))))
theorem sB_40_63 (f : Nat) (l0 : Nat) (l1 : Nat) (l2 : Int32) (l4 : Nat) (l5 : Int32) (w3 : Value) (w6 : Value) (h : hp_T) (o : ev_O) (hB : B_40_63 f l0 l1 l2 l4 l5 h = some o) : rg 40 63 [.ref l0, .ref l1, .int l2, w3, .ref l4, .int l5, w6] [] h o := by
  unfold B_40_63 at hB
  refine rg_p rfl rfl ?_
  obtain ⟨c1, hB⟩ := dg_e hB
  obtain ⟨r2, p3, hB⟩ := dp_e hB
  refine rg_gp rfl rfl rfl (of_decide_eq_true c1) p3 ?_
  refine rg_p rfl rfl ?_
  obtain ⟨c4, hB⟩ := dg_e hB
  obtain ⟨r5, p6, hB⟩ := dp_e hB
  refine rg_aa (t := 105) (by decide) rfl (ai_of c4) p6 ?_
  refine rg_p (L' := [.ref l0, .ref l1, .int l2, w3, .ref l4, .int l5, .ref r5]) rfl rfl ?_
  show rg 40 72 _ _ _ _
  refine rg_p rfl rfl ?_
  refine rg_p rfl rfl ?_
  refine rg_p rfl rfl ?_
  obtain ⟨c7, hB⟩ := dg_e hB
  rcases dv_e hB with ⟨h8, z9, hB⟩ | ⟨q10, h8, z9, hB⟩
  · refine rg_call (rg_v9 (n := 2) (b := r5) (as := [.ref r5, .ref l1, .int l2]) (ar := []) rfl rfl rfl (Nat.le_of_ble_eq_true rfl) rfl rfl (Nat.le_of_ble_eq_true rfl) (of_decide_eq_true c7)) (sF_36 z9) ?_
    refine rg_p rfl rfl ?_
    obtain ⟨c11, hB⟩ := dg_e hB
    rcases di_e hB with ⟨v15, h12, z13, hB⟩ | ⟨q14, h12, z13, hB⟩
    · refine rg_call (rg_v9 (n := 0) (b := r5) (as := [.ref r5]) (ar := []) rfl rfl rfl (Nat.le_of_ble_eq_true rfl) rfl rfl (Nat.le_of_ble_eq_true rfl) (of_decide_eq_true c11)) (sF_37 z13) ?_
      rcases db_e hB with ⟨q16, hB⟩ | ⟨q16, hB⟩
      · refine rg_bt (t := 89) (pc' := 87) rfl rfl q16 ?_
        refine rg_p rfl rfl ?_
        refine rg_p rfl rfl ?_
        obtain ⟨c17, hB⟩ := dg_e hB
        rcases dv_e hB with ⟨h18, z19, hB⟩ | ⟨q20, h18, z19, hB⟩
        · refine rg_call (rg_v9 (n := 1) (b := r5) (as := [.ref r5, .ref l4]) (ar := []) rfl rfl rfl (Nat.le_of_ble_eq_true rfl) rfl rfl (Nat.le_of_ble_eq_true rfl) (of_decide_eq_true c17)) (sF_38 z19) ?_
          refine rg_p rfl rfl ?_
          refine rg_p rfl rfl ?_
          obtain ⟨c21, hB⟩ := dg_e hB
          rcases dv_e hB with ⟨h22, z23, hB⟩ | ⟨q24, h22, z23, hB⟩
          · refine rg_call (rg_v9 (n := 1) (b := l0) (as := [.ref l0, .int l5]) (ar := []) rfl rfl rfl (Nat.le_of_ble_eq_true rfl) rfl rfl (Nat.le_of_ble_eq_true rfl) (of_decide_eq_true c21)) (sF_42 z23) ?_
            refine rg_ic (v := (1 : Int32)) rfl (by decide) ?_
            cases hB
            exact rg_ri rfl rfl (dz_n dz_1)
          · subst hB
            exact rg_callX (rg_v9 (n := 1) (b := l0) (as := [.ref l0, .int l5]) (ar := []) rfl rfl rfl (Nat.le_of_ble_eq_true rfl) rfl rfl (Nat.le_of_ble_eq_true rfl) (of_decide_eq_true c21)) (sF_42 z23)
        · subst hB
          exact rg_callX (rg_v9 (n := 1) (b := r5) (as := [.ref r5, .ref l4]) (ar := []) rfl rfl rfl (Nat.le_of_ble_eq_true rfl) rfl rfl (Nat.le_of_ble_eq_true rfl) (of_decide_eq_true c17)) (sF_38 z19)
      · refine rg_bf (t := 89) (pc' := 87) rfl rfl q16 ?_
        refine rg_ic (v := (0 : Int32)) rfl (by decide) ?_
        cases hB
        exact rg_ri rfl rfl (dz_n dz_0)
    · subst hB
      exact rg_callX (rg_v9 (n := 0) (b := r5) (as := [.ref r5]) (ar := []) rfl rfl rfl (Nat.le_of_ble_eq_true rfl) rfl rfl (Nat.le_of_ble_eq_true rfl) (of_decide_eq_true c11)) (sF_37 z13)
  · subst hB
    exact rg_callX (rg_v9 (n := 2) (b := r5) (as := [.ref r5, .ref l1, .int l2]) (ar := []) rfl rfl rfl (Nat.le_of_ble_eq_true rfl) rfl rfl (Nat.le_of_ble_eq_true rfl) (of_decide_eq_true c7)) (sF_36 z9)
def B_40_49 (f : Nat) (l0 : Nat) (l1 : Nat) (l2 : Int32) (l3 : Int32) (l4 : Nat) (l5 : Int32) (h : hp_T) : Option ev_O := (db (ev_c .ne l5 (-1 : Int32)) (B_40_63 f  l0 l1 l2 l4 l5 h) (dg (decide (hp_k h l0 = some (6, 0))) (di (F_45 f l0 l1 l3 h) fun v6 h3 => (B_40_63 f  l0 l1 l2 l4 v6 h3))))
theorem sB_40_49 (f : Nat) (l0 : Nat) (l1 : Nat) (l2 : Int32) (l3 : Int32) (l4 : Nat) (l5 : Int32) (w6 : Value) (h : hp_T) (o : ev_O) (hB : B_40_49 f l0 l1 l2 l3 l4 l5 h = some o) : rg 40 49 [.ref l0, .ref l1, .int l2, .int l3, .ref l4, .int l5, w6] [] h o := by
  unfold B_40_49 at hB
  refine rg_p rfl rfl ?_
  refine rg_ic (v := (-1 : Int32)) rfl (by decide) ?_
  rcases db_e hB with ⟨q1, hB⟩ | ⟨q1, hB⟩
  · refine rg_bt (t := 63) (pc' := 55) rfl rfl q1 ?_
    exact sB_40_63 f  _ _ _ _ _ _ _ h _ hB
  · refine rg_bf (t := 63) (pc' := 55) rfl rfl q1 ?_
    refine rg_p rfl rfl ?_
    refine rg_p rfl rfl ?_
    refine rg_p rfl rfl ?_
    obtain ⟨c2, hB⟩ := dg_e hB
    rcases di_e hB with ⟨v6, h3, z4, hB⟩ | ⟨q5, h3, z4, hB⟩
    · refine rg_call (rg_v9 (n := 2) (b := l0) (as := [.ref l0, .ref l1, .int l3]) (ar := []) rfl rfl rfl (Nat.le_of_ble_eq_true rfl) rfl rfl (Nat.le_of_ble_eq_true rfl) (of_decide_eq_true c2)) (sF_45 z4) ?_
      refine rg_p (L' := [.ref l0, .ref l1, .int l2, .int l3, .ref l4, .int v6, w6]) rfl rfl ?_
      exact sB_40_63 f  _ _ _ _ _ _ _ h3 _ hB
    · subst hB
      exact rg_callX (rg_v9 (n := 2) (b := l0) (as := [.ref l0, .ref l1, .int l3]) (ar := []) rfl rfl rfl (Nat.le_of_ble_eq_true rfl) rfl rfl (Nat.le_of_ble_eq_true rfl) (of_decide_eq_true c2)) (sF_45 z4)
def B_40_47 (f : Nat) (h : hp_T) : Option ev_O := (some (.inl (some (.int (0 : Int32))), h))
theorem sB_40_47 (f : Nat) (w0 : Value) (w1 : Value) (w2 : Value) (w3 : Value) (w4 : Value) (w5 : Value) (w6 : Value) (h : hp_T) (o : ev_O) (hB : B_40_47 f  h = some o) : rg 40 47 [w0, w1, w2, w3, w4, w5, w6] [] h o := by
  unfold B_40_47 at hB
  refine rg_ic (v := (0 : Int32)) rfl (by decide) ?_
  cases hB
  exact rg_ri rfl rfl (dz_n dz_0)
def B_40_35 (f : Nat) (l0 : Nat) (l5 : Int32) (h : hp_T) : Option ev_O := (db (ev_c .eq l5 (-1 : Int32)) (B_40_47 f   h) (dg (decide (hp_k h l0 = some (6, 0))) (dv (F_42 f l0 l5 h) fun h3 => (B_40_47 f   h3))))
theorem sB_40_35 (f : Nat) (l0 : Nat) (l5 : Int32) (w1 : Value) (w2 : Value) (w3 : Value) (w4 : Value) (w6 : Value) (h : hp_T) (o : ev_O) (hB : B_40_35 f l0 l5 h = some o) : rg 40 35 [.ref l0, w1, w2, w3, w4, .int l5, w6] [] h o := by
  unfold B_40_35 at hB
  refine rg_p rfl rfl ?_
  refine rg_ic (v := (-1 : Int32)) rfl (by decide) ?_
  rcases db_e hB with ⟨q1, hB⟩ | ⟨q1, hB⟩
  · refine rg_bt (t := 47) (pc' := 41) rfl rfl q1 ?_
    exact sB_40_47 f  _ _ _ _ _ _ _ h _ hB
  · refine rg_bf (t := 47) (pc' := 41) rfl rfl q1 ?_
    refine rg_p rfl rfl ?_
    refine rg_p rfl rfl ?_
    obtain ⟨c2, hB⟩ := dg_e hB
    rcases dv_e hB with ⟨h3, z4, hB⟩ | ⟨q5, h3, z4, hB⟩
    · refine rg_call (rg_v9 (n := 1) (b := l0) (as := [.ref l0, .int l5]) (ar := []) rfl rfl rfl (Nat.le_of_ble_eq_true rfl) rfl rfl (Nat.le_of_ble_eq_true rfl) (of_decide_eq_true c2)) (sF_42 z4) ?_
      exact sB_40_47 f  _ _ _ _ _ _ _ h3 _ hB
    · subst hB
      exact rg_callX (rg_v9 (n := 1) (b := l0) (as := [.ref l0, .int l5]) (ar := []) rfl rfl rfl (Nat.le_of_ble_eq_true rfl) rfl rfl (Nat.le_of_ble_eq_true rfl) (of_decide_eq_true c2)) (sF_42 z4)
def F_40 (f : Nat) (a0 : Nat) (a1 : Nat) (a2 : Int32) (a3 : Int32) (a4 : Nat) (h : hp_T) : Option ev_O := (dg (decide (hp_k h a0 = some (6, 0))) (di (F_43 f a0 a1 h) fun v5 h2 => (dg (decide (hp_k h2 a0 = some (6, 0))) (di (F_44 f a0 a1 h2) fun v10 h7 => (db (ev_c .ne v10 0) (B_40_35 f  a0 v5 h7) (db (ev_c .eq v5 (-1 : Int32)) (B_40_49 f  a0 a1 a2 a3 a4 v5 h7) (dg (decide (hp_k h7 a0 = some (6, 0))) (dp (hp_p h7 a0 0) fun r14 => (dg (aib 105 h7 r14 v5) (dp (hp_p h7 r14 (Int32.toNatClampNeg v5)) fun r17 => (dg (decide (hp_k h7 r17 = some (5, 0))) (di (F_35 f r17 a1 h7) fun v23 h20 => (db (ev_c .eq v23 0) (B_40_49 f  a0 a1 a2 a3 a4 v5 h20) (B_40_35 f  a0 v5 h20))))))))))))))
theorem sF_40 {f : Nat} {a0 : Nat} {a1 : Nat} {a2 : Int32} {a3 : Int32} {a4 : Nat} {h : hp_T} {o : ev_O} (hB : F_40 f a0 a1 a2 a3 a4 h = some o) : rm 40 [.ref a0, .ref a1, .int a2, .int a3, .ref a4] h o := by
  unfold F_40 at hB
  refine rm_in (L := [.ref a0, .ref a1, .int a2, .int a3, .ref a4, .null, .null]) (Nat.le_of_ble_eq_true rfl) rfl ?_
  refine rg_p rfl rfl ?_
  refine rg_p rfl rfl ?_
  obtain ⟨c1, hB⟩ := dg_e hB
  rcases di_e hB with ⟨v5, h2, z3, hB⟩ | ⟨q4, h2, z3, hB⟩
  · refine rg_call (rg_v9 (n := 1) (b := a0) (as := [.ref a0, .ref a1]) (ar := []) rfl rfl rfl (Nat.le_of_ble_eq_true rfl) rfl rfl (Nat.le_of_ble_eq_true rfl) (of_decide_eq_true c1)) (sF_43 z3) ?_
    refine rg_p (L' := [.ref a0, .ref a1, .int a2, .int a3, .ref a4, .int v5, .null]) rfl rfl ?_
    refine rg_p rfl rfl ?_
    refine rg_p rfl rfl ?_
    obtain ⟨c6, hB⟩ := dg_e hB
    rcases di_e hB with ⟨v10, h7, z8, hB⟩ | ⟨q9, h7, z8, hB⟩
    · refine rg_call (rg_v9 (n := 1) (b := a0) (as := [.ref a0, .ref a1]) (ar := []) rfl rfl rfl (Nat.le_of_ble_eq_true rfl) rfl rfl (Nat.le_of_ble_eq_true rfl) (of_decide_eq_true c6)) (sF_44 z8) ?_
      rcases db_e hB with ⟨q11, hB⟩ | ⟨q11, hB⟩
      · refine rg_bt (t := 35) (pc' := 15) rfl rfl q11 ?_
        exact sB_40_35 f  _ _ _ _ _ _ _ h7 _ hB
      · refine rg_bf (t := 35) (pc' := 15) rfl rfl q11 ?_
        refine rg_p rfl rfl ?_
        refine rg_ic (v := (-1 : Int32)) rfl (by decide) ?_
        rcases db_e hB with ⟨q12, hB⟩ | ⟨q12, hB⟩
        · refine rg_bt (t := 49) (pc' := 21) rfl rfl q12 ?_
          exact sB_40_49 f  _ _ _ _ _ _ _ h7 _ hB
        · refine rg_bf (t := 49) (pc' := 21) rfl rfl q12 ?_
          refine rg_p rfl rfl ?_
          obtain ⟨c13, hB⟩ := dg_e hB
          obtain ⟨r14, p15, hB⟩ := dp_e hB
          refine rg_gp rfl rfl rfl (of_decide_eq_true c13) p15 ?_
          refine rg_p rfl rfl ?_
          obtain ⟨c16, hB⟩ := dg_e hB
          obtain ⟨r17, p18, hB⟩ := dp_e hB
          refine rg_aa (t := 105) (by decide) rfl (ai_of c16) p18 ?_
          refine rg_p rfl rfl ?_
          show rg 40 29 _ _ _ _
          obtain ⟨c19, hB⟩ := dg_e hB
          rcases di_e hB with ⟨v23, h20, z21, hB⟩ | ⟨q22, h20, z21, hB⟩
          · refine rg_call (rg_v9 (n := 1) (b := r17) (as := [.ref r17, .ref a1]) (ar := []) rfl rfl rfl (Nat.le_of_ble_eq_true rfl) rfl rfl (Nat.le_of_ble_eq_true rfl) (of_decide_eq_true c19)) (sF_35 z21) ?_
            rcases db_e hB with ⟨q24, hB⟩ | ⟨q24, hB⟩
            · refine rg_bt (t := 49) (pc' := 35) rfl rfl q24 ?_
              exact sB_40_49 f  _ _ _ _ _ _ _ h20 _ hB
            · refine rg_bf (t := 49) (pc' := 35) rfl rfl q24 ?_
              exact sB_40_35 f  _ _ _ _ _ _ _ h20 _ hB
          · subst hB
            exact rg_callX (rg_v9 (n := 1) (b := r17) (as := [.ref r17, .ref a1]) (ar := []) rfl rfl rfl (Nat.le_of_ble_eq_true rfl) rfl rfl (Nat.le_of_ble_eq_true rfl) (of_decide_eq_true c19)) (sF_35 z21)
    · subst hB
      exact rg_callX (rg_v9 (n := 1) (b := a0) (as := [.ref a0, .ref a1]) (ar := []) rfl rfl rfl (Nat.le_of_ble_eq_true rfl) rfl rfl (Nat.le_of_ble_eq_true rfl) (of_decide_eq_true c6)) (sF_44 z8)
  · subst hB
    exact rg_callX (rg_v9 (n := 1) (b := a0) (as := [.ref a0, .ref a1]) (ar := []) rfl rfl rfl (Nat.le_of_ble_eq_true rfl) rfl rfl (Nat.le_of_ble_eq_true rfl) (of_decide_eq_true c1)) (sF_43 z3)
-- 41: RouteHouse$Waits.hasOverdue(I)Z
def B_41_28 (f : Nat) (s0 : Int32) (h : hp_T) : Option ev_O := (dg (dzb s0) (some (.inl (some (.int s0)), h)))
theorem sB_41_28 (f : Nat) (s0 : Int32) (w0 : Value) (w1 : Value) (h : hp_T) (o : ev_O) (hB : B_41_28 f s0 h = some o) : rg 41 28 [w0, w1] [.int s0] h o := by
  unfold B_41_28 at hB
  obtain ⟨c1, hB⟩ := dg_e hB
  cases hB
  exact rg_ri rfl rfl (dz_n (dz_of c1))
def B_41_27 (f : Nat) (h : hp_T) : Option ev_O := (B_41_28 f  (0 : Int32) h)
theorem sB_41_27 (f : Nat) (w0 : Value) (w1 : Value) (h : hp_T) (o : ev_O) (hB : B_41_27 f  h = some o) : rg 41 27 [w0, w1] [] h o := by
  unfold B_41_27 at hB
  refine rg_ic (v := (0 : Int32)) rfl (by decide) ?_
  exact sB_41_28 f  _ _ _ h _ hB
def F_41 (f : Nat) (a0 : Nat) (a1 : Int32) (h : hp_T) : Option ev_O := (dg (decide (hp_k h a0 = some (6, 0))) (db (ev_c .le (hp_z h a0 1) 0) (B_41_27 f   h) (dp (hp_p h a0 0) fun r3 => (dg (aib 105 h r3 (0 : Int32)) (dp (hp_p h r3 (Int32.toNatClampNeg (0 : Int32))) fun r6 => (dg (decide (hp_k h r6 = some (5, 0))) (db (ev_c .lt (a1 - (hp_z h r6 9)) (30 : Int32)) (B_41_27 f   h) (B_41_28 f  (1 : Int32) h))))))))
theorem sF_41 {f : Nat} {a0 : Nat} {a1 : Int32} {h : hp_T} {o : ev_O} (hB : F_41 f a0 a1 h = some o) : rm 41 [.ref a0, .int a1] h o := by
  unfold F_41 at hB
  refine rm_in (L := [.ref a0, .int a1]) (Nat.le_of_ble_eq_true rfl) rfl ?_
  refine rg_p rfl rfl ?_
  obtain ⟨c1, hB⟩ := dg_e hB
  refine rg_gz rfl rfl rfl (of_decide_eq_true c1) ?_
  rcases db_e hB with ⟨q2, hB⟩ | ⟨q2, hB⟩
  · refine rg_bt (t := 27) (pc' := 7) rfl rfl q2 ?_
    exact sB_41_27 f  _ _ h _ hB
  · refine rg_bf (t := 27) (pc' := 7) rfl rfl q2 ?_
    refine rg_p rfl rfl ?_
    refine rg_p rfl rfl ?_
    obtain ⟨r3, p4, hB⟩ := dp_e hB
    refine rg_gp rfl rfl rfl (of_decide_eq_true c1) p4 ?_
    refine rg_ic (v := (0 : Int32)) rfl (by decide) ?_
    obtain ⟨c5, hB⟩ := dg_e hB
    obtain ⟨r6, p7, hB⟩ := dp_e hB
    refine rg_aa (t := 105) (by decide) rfl (ai_of c5) p7 ?_
    show rg 41 14 _ _ _ _
    obtain ⟨c8, hB⟩ := dg_e hB
    refine rg_gz rfl rfl rfl (of_decide_eq_true c8) ?_
    refine rg_p rfl rfl ?_
    refine rg_bi (v := (30 : Int32)) rfl (by decide) ?_
    rcases db_e hB with ⟨q9, hB⟩ | ⟨q9, hB⟩
    · refine rg_bt (t := 27) (pc' := 23) rfl rfl q9 ?_
      exact sB_41_27 f  _ _ h _ hB
    · refine rg_bf (t := 27) (pc' := 23) rfl rfl q9 ?_
      refine rg_ic (v := (1 : Int32)) rfl (by decide) ?_
      refine rg_p (pc' := 28) rfl rfl ?_
      exact sB_41_28 f  _ _ _ h _ hB
-- 46: RouteHouse.<init>()V
def B_46_15 (f : Nat) : Nat → Nat → Int32 → hp_T → Option ev_O
  | 0, _, _, _ => none
  | g + 1, l0, l1, h => (db (ev_c .ge l1 (8 : Int32)) (dl (hp_new h 4 0 5) fun h2 => (dw (F_26 f h.1.length h2) fun h4 => (dg (decide (hp_k h4 l0 = some (7, 0))) (dl (hp_pw h4 l0 1 (some h.1.length)) fun h8 => (dl (hp_new h8 2 0 2) fun h10 => (dw (F_7 f h8.1.length (2000 : Int32) h10) fun h12 => (dg (decide (hp_k h12 l0 = some (7, 0))) (dl (hp_pw h12 l0 2 (some h8.1.length)) fun h16 => (dl (hp_new h16 2 0 2) fun h18 => (dw (F_7 f h16.1.length (4060 : Int32) h18) fun h20 => (dg (decide (hp_k h20 l0 = some (7, 0))) (dl (hp_pw h20 l0 3 (some h16.1.length)) fun h24 => (dl (hp_new h24 2 0 2) fun h26 => (dw (F_7 f h24.1.length (4020 : Int32) h26) fun h28 => (dg (decide (hp_k h28 l0 = some (7, 0))) (dl (hp_pw h28 l0 4 (some h24.1.length)) fun h32 => (dl (hp_new h32 1 0 8) fun h34 => (dw (F_2 f h32.1.length h34) fun h36 => (dg (decide (hp_k h36 l0 = some (7, 0))) (dl (hp_pw h36 l0 5 (some h32.1.length)) fun h40 => (dl (hp_new h40 6 0 2) fun h42 => (dw (F_39 f h40.1.length h42) fun h44 => (dg (decide (hp_k h44 l0 = some (7, 0))) (dl (hp_pw h44 l0 6 (some h40.1.length)) fun h48 => (dl (hp_new h48 0 0 5) fun h50 => (dw (F_0 f h48.1.length h50) fun h52 => (dg (decide (hp_k h52 l0 = some (7, 0))) (dl (hp_pw h52 l0 7 (some h48.1.length)) fun h56 => (dg (decide (hp_k h56 l0 = some (7, 0))) (dl (wz h56 l0 8 (6 : Int32)) fun h59 => (some (.inl none, h59)))))))))))))))))))))))))))))))) (dg (decide (hp_k h l0 = some (7, 0))) (dp (hp_p h l0 0) fun r62 => (dl (hp_new h 3 0 3) fun h64 => (dw (F_25 f h.1.length h64) fun h66 => (dg (aib 103 h66 r62 l1) (dg (decide (hp_k h66 h.1.length = some (3, 0))) (dl (hp_pw h66 r62 (Int32.toNatClampNeg l1) (some h.1.length)) fun h71 => ((B_46_15 f g) l0 (l1 + (1 : Int32)) h71)))))))))
theorem sB_46_15 (f : Nat) : ∀ (g : Nat) (l0 : Nat) (l1 : Int32) (h : hp_T) (o : ev_O), B_46_15 f g l0 l1 h = some o → rg 46 15 [.ref l0, .int l1] [] h o := by
  intro g
  induction g with
  | zero =>
    intro l0 l1  h o hB
    rw [B_46_15] at hB
    cases hB
  | succ g ih =>
    intro l0 l1  h o hB
    rw [B_46_15] at hB
    refine rg_p rfl rfl ?_
    refine rg_bi (v := (8 : Int32)) rfl (by decide) ?_
    rcases db_e hB with ⟨q1, hB⟩ | ⟨q1, hB⟩
    · refine rg_bt (t := 40) (pc' := 21) rfl rfl q1 ?_
      refine rg_p rfl rfl ?_
      obtain ⟨h2, e3, hB⟩ := dl_e hB
      refine rg_nw rfl rfl (by decide) e3 ?_
      refine rg_p rfl rfl ?_
      obtain ⟨h4, z5, hB⟩ := dw_e hB
      refine rg_i9 (n := 0) (b := h.1.length) (as := [.ref h.1.length]) rfl rfl rfl (Nat.le_of_ble_eq_true rfl) rfl rfl (Nat.le_of_ble_eq_true rfl) (sF_26 z5) ?_
      obtain ⟨c7, hB⟩ := dg_e hB
      obtain ⟨h8, e9, hB⟩ := dl_e hB
      refine rg_pp rfl rfl rfl (of_decide_eq_true c7) e9 ?_
      refine rg_p rfl rfl ?_
      obtain ⟨h10, e11, hB⟩ := dl_e hB
      refine rg_nw rfl rfl (by decide) e11 ?_
      refine rg_p rfl rfl ?_
      refine rg_si (v := (2000 : Int32)) rfl (by decide) ?_
      show rg 46 59 _ _ _ _
      obtain ⟨h12, z13, hB⟩ := dw_e hB
      refine rg_i9 (n := 1) (b := h8.1.length) (as := [.ref h8.1.length, .int (2000 : Int32)]) rfl rfl rfl (Nat.le_of_ble_eq_true rfl) rfl rfl (Nat.le_of_ble_eq_true rfl) (sF_7 z13) ?_
      obtain ⟨c15, hB⟩ := dg_e hB
      obtain ⟨h16, e17, hB⟩ := dl_e hB
      refine rg_pp rfl rfl rfl (of_decide_eq_true c15) e17 ?_
      refine rg_p rfl rfl ?_
      obtain ⟨h18, e19, hB⟩ := dl_e hB
      refine rg_nw rfl rfl (by decide) e19 ?_
      refine rg_p rfl rfl ?_
      refine rg_si (v := (4060 : Int32)) rfl (by decide) ?_
      show rg 46 73 _ _ _ _
      obtain ⟨h20, z21, hB⟩ := dw_e hB
      refine rg_i9 (n := 1) (b := h16.1.length) (as := [.ref h16.1.length, .int (4060 : Int32)]) rfl rfl rfl (Nat.le_of_ble_eq_true rfl) rfl rfl (Nat.le_of_ble_eq_true rfl) (sF_7 z21) ?_
      obtain ⟨c23, hB⟩ := dg_e hB
      obtain ⟨h24, e25, hB⟩ := dl_e hB
      refine rg_pp rfl rfl rfl (of_decide_eq_true c23) e25 ?_
      refine rg_p rfl rfl ?_
      obtain ⟨h26, e27, hB⟩ := dl_e hB
      refine rg_nw rfl rfl (by decide) e27 ?_
      refine rg_p rfl rfl ?_
      refine rg_si (v := (4020 : Int32)) rfl (by decide) ?_
      show rg 46 87 _ _ _ _
      obtain ⟨h28, z29, hB⟩ := dw_e hB
      refine rg_i9 (n := 1) (b := h24.1.length) (as := [.ref h24.1.length, .int (4020 : Int32)]) rfl rfl rfl (Nat.le_of_ble_eq_true rfl) rfl rfl (Nat.le_of_ble_eq_true rfl) (sF_7 z29) ?_
      obtain ⟨c31, hB⟩ := dg_e hB
      obtain ⟨h32, e33, hB⟩ := dl_e hB
      refine rg_pp rfl rfl rfl (of_decide_eq_true c31) e33 ?_
      refine rg_p rfl rfl ?_
      obtain ⟨h34, e35, hB⟩ := dl_e hB
      refine rg_nw rfl rfl (by decide) e35 ?_
      refine rg_p rfl rfl ?_
      obtain ⟨h36, z37, hB⟩ := dw_e hB
      refine rg_i9 (n := 0) (b := h32.1.length) (as := [.ref h32.1.length]) rfl rfl rfl (Nat.le_of_ble_eq_true rfl) rfl rfl (Nat.le_of_ble_eq_true rfl) (sF_2 z37) ?_
      obtain ⟨c39, hB⟩ := dg_e hB
      obtain ⟨h40, e41, hB⟩ := dl_e hB
      refine rg_pp rfl rfl rfl (of_decide_eq_true c39) e41 ?_
      refine rg_p rfl rfl ?_
      obtain ⟨h42, e43, hB⟩ := dl_e hB
      refine rg_nw rfl rfl (by decide) e43 ?_
      refine rg_p rfl rfl ?_
      obtain ⟨h44, z45, hB⟩ := dw_e hB
      refine rg_i9 (n := 0) (b := h40.1.length) (as := [.ref h40.1.length]) rfl rfl rfl (Nat.le_of_ble_eq_true rfl) rfl rfl (Nat.le_of_ble_eq_true rfl) (sF_39 z45) ?_
      obtain ⟨c47, hB⟩ := dg_e hB
      obtain ⟨h48, e49, hB⟩ := dl_e hB
      refine rg_pp rfl rfl rfl (of_decide_eq_true c47) e49 ?_
      refine rg_p rfl rfl ?_
      obtain ⟨h50, e51, hB⟩ := dl_e hB
      refine rg_nw rfl rfl (by decide) e51 ?_
      refine rg_p rfl rfl ?_
      obtain ⟨h52, z53, hB⟩ := dw_e hB
      refine rg_i9 (n := 0) (b := h48.1.length) (as := [.ref h48.1.length]) rfl rfl rfl (Nat.le_of_ble_eq_true rfl) rfl rfl (Nat.le_of_ble_eq_true rfl) (sF_0 z53) ?_
      obtain ⟨c55, hB⟩ := dg_e hB
      obtain ⟨h56, e57, hB⟩ := dl_e hB
      refine rg_pp rfl rfl rfl (of_decide_eq_true c55) e57 ?_
      refine rg_p rfl rfl ?_
      refine rg_bi (v := (6 : Int32)) rfl (by decide) ?_
      obtain ⟨c58, hB⟩ := dg_e hB
      obtain ⟨h59, e60, hB⟩ := dl_e hB
      refine rg_pi rfl rfl rfl (of_decide_eq_true c58) e60 ?_
      cases hB
      exact rg_rv rfl rfl
    · refine rg_bf (t := 40) (pc' := 21) rfl rfl q1 ?_
      refine rg_p rfl rfl ?_
      obtain ⟨c61, hB⟩ := dg_e hB
      obtain ⟨r62, p63, hB⟩ := dp_e hB
      refine rg_gp rfl rfl rfl (of_decide_eq_true c61) p63 ?_
      refine rg_p rfl rfl ?_
      obtain ⟨h64, e65, hB⟩ := dl_e hB
      refine rg_nw rfl rfl (by decide) e65 ?_
      refine rg_p rfl rfl ?_
      show rg 46 30 _ _ _ _
      obtain ⟨h66, z67, hB⟩ := dw_e hB
      refine rg_i9 (n := 0) (b := h.1.length) (as := [.ref h.1.length]) rfl rfl rfl (Nat.le_of_ble_eq_true rfl) rfl rfl (Nat.le_of_ble_eq_true rfl) (sF_25 z67) ?_
      obtain ⟨c69, hB⟩ := dg_e hB
      obtain ⟨c70, hB⟩ := dg_e hB
      obtain ⟨h71, e72, hB⟩ := dl_e hB
      refine rg_as (t := 3) (by decide) rfl (ai_of c69) (of_decide_eq_true c70) e72 ?_
      refine rg_p (L' := [.ref l0, .int (l1 + (1 : Int32))]) rfl rfl ?_
      refine rg_p (pc' := 15) rfl rfl ?_
      exact ih _ _ h71 _ hB
def F_46 (f : Nat) (a0 : Nat) (h : hp_T) : Option ev_O := (dl (hp_new h 103 (Int32.toNatClampNeg (8 : Int32)) (Int32.toNatClampNeg (8 : Int32))) fun h1 => (dg (decide (hp_k h1 a0 = some (7, 0))) (dl (hp_pw h1 a0 0 (some h.1.length)) fun h4 => (B_46_15 f  f a0 (0 : Int32) h4))))
theorem sF_46 {f : Nat} {a0 : Nat} {h : hp_T} {o : ev_O} (hB : F_46 f a0 h = some o) : rm 46 [.ref a0] h o := by
  unfold F_46 at hB
  refine rm_in (L := [.ref a0, .null]) (Nat.le_of_ble_eq_true rfl) rfl ?_
  refine rg_p rfl rfl ?_
  refine rg_oi rfl rfl (Nat.le_of_ble_eq_true rfl) ?_
  refine rg_p rfl rfl ?_
  refine rg_bi (v := (8 : Int32)) rfl (by decide) ?_
  obtain ⟨h1, e2, hB⟩ := dl_e hB
  refine rg_nq rfl rfl ⟨by decide, by decide⟩ e2 ?_
  show rg 46 10 _ _ _ _
  obtain ⟨c3, hB⟩ := dg_e hB
  obtain ⟨h4, e5, hB⟩ := dl_e hB
  refine rg_pp rfl rfl rfl (of_decide_eq_true c3) e5 ?_
  refine rg_ic (v := (0 : Int32)) rfl (by decide) ?_
  refine rg_p (L' := [.ref a0, .int (0 : Int32)]) rfl rfl ?_
  exact sB_46_15 f  f _ _ h4 _ hB
-- 62: RouteHouse.refuseStrangePort(I)V
def B_62_10 (f : Nat) (h : hp_T) : Option ev_O := (some (.inr 0, hp_thr h))
theorem sB_62_10 (f : Nat) (w0 : Value) (w1 : Value) (h : hp_T) (o : ev_O) (hB : B_62_10 f  h = some o) : rg 62 10 [w0, w1] [] h o := by
  unfold B_62_10 at hB
  cases hB
  exact rg_th rfl rfl (Nat.le_of_ble_eq_true rfl)
def F_62 (f : Nat) (a0 : Nat) (a1 : Int32) (h : hp_T) : Option ev_O := (db (ev_c .lt a1 0) (B_62_10 f   h) (db (ev_c .lt a1 (8 : Int32)) (some (.inl none, h)) (B_62_10 f   h)))
theorem sF_62 {f : Nat} {a0 : Nat} {a1 : Int32} {h : hp_T} {o : ev_O} (hB : F_62 f a0 a1 h = some o) : rm 62 [.ref a0, .int a1] h o := by
  unfold F_62 at hB
  refine rm_in (L := [.ref a0, .int a1]) (Nat.le_of_ble_eq_true rfl) rfl ?_
  refine rg_p rfl rfl ?_
  rcases db_e hB with ⟨q1, hB⟩ | ⟨q1, hB⟩
  · refine rg_bt (t := 10) (pc' := 4) rfl rfl q1 ?_
    exact sB_62_10 f  _ _ h _ hB
  · refine rg_bf (t := 10) (pc' := 4) rfl rfl q1 ?_
    refine rg_p rfl rfl ?_
    refine rg_bi (v := (8 : Int32)) rfl (by decide) ?_
    rcases db_e hB with ⟨q2, hB⟩ | ⟨q2, hB⟩
    · refine rg_bt (t := 20) (pc' := 10) rfl rfl q2 ?_
      cases hB
      exact rg_rv rfl rfl
    · refine rg_bf (t := 20) (pc' := 10) rfl rfl q2 ?_
      exact sB_62_10 f  _ _ h _ hB
-- 47: RouteHouse.port(III)V
def B_47_18 (f : Nat) (h : hp_T) : Option ev_O := (some (.inr 1, hp_thr h))
theorem sB_47_18 (f : Nat) (w0 : Value) (w1 : Value) (w2 : Value) (w3 : Value) (h : hp_T) (o : ev_O) (hB : B_47_18 f  h = some o) : rg 47 18 [w0, w1, w2, w3] [] h o := by
  unfold B_47_18 at hB
  cases hB
  exact rg_th rfl rfl (Nat.le_of_ble_eq_true rfl)
def F_47 (f : Nat) (a0 : Nat) (a1 : Int32) (a2 : Int32) (a3 : Int32) (h : hp_T) : Option ev_O := (dg (decide (hp_k h a0 = some (7, 0))) (dv (F_62 f a0 a1 h) fun h2 => (db (ev_c .lt a3 (100 : Int32)) (B_47_18 f   h2) (db (ev_c .le a3 (1500 : Int32)) (dg (decide (hp_k h2 a0 = some (7, 0))) (dp (hp_p h2 a0 0) fun r8 => (dg (aib 103 h2 r8 a1) (dp (hp_p h2 r8 (Int32.toNatClampNeg a1)) fun r11 => (dg (decide (hp_k h2 r11 = some (3, 0))) (dl (wz h2 r11 0 a2) fun h14 => (dg (decide (hp_k h14 a0 = some (7, 0))) (dp (hp_p h14 a0 0) fun r17 => (dg (aib 103 h14 r17 a1) (dp (hp_p h14 r17 (Int32.toNatClampNeg a1)) fun r20 => (dg (decide (hp_k h14 r20 = some (3, 0))) (dl (wz h14 r20 1 a3) fun h23 => (some (.inl none, h23)))))))))))))) (B_47_18 f   h2)))))
theorem sF_47 {f : Nat} {a0 : Nat} {a1 : Int32} {a2 : Int32} {a3 : Int32} {h : hp_T} {o : ev_O} (hB : F_47 f a0 a1 a2 a3 h = some o) : rm 47 [.ref a0, .int a1, .int a2, .int a3] h o := by
  unfold F_47 at hB
  refine rm_in (L := [.ref a0, .int a1, .int a2, .int a3]) (Nat.le_of_ble_eq_true rfl) rfl ?_
  refine rg_p rfl rfl ?_
  refine rg_p rfl rfl ?_
  obtain ⟨c1, hB⟩ := dg_e hB
  rcases dv_e hB with ⟨h2, z3, hB⟩ | ⟨q4, h2, z3, hB⟩
  · refine rg_call (rg_v9 (n := 1) (b := a0) (as := [.ref a0, .int a1]) (ar := []) rfl rfl rfl (Nat.le_of_ble_eq_true rfl) rfl rfl (Nat.le_of_ble_eq_true rfl) (of_decide_eq_true c1)) (sF_62 z3) ?_
    refine rg_p rfl rfl ?_
    refine rg_bi (v := (100 : Int32)) rfl (by decide) ?_
    rcases db_e hB with ⟨q5, hB⟩ | ⟨q5, hB⟩
    · refine rg_bt (t := 18) (pc' := 11) rfl rfl q5 ?_
      exact sB_47_18 f  _ _ _ _ h2 _ hB
    · refine rg_bf (t := 18) (pc' := 11) rfl rfl q5 ?_
      refine rg_p rfl rfl ?_
      refine rg_si (v := (1500 : Int32)) rfl (by decide) ?_
      rcases db_e hB with ⟨q6, hB⟩ | ⟨q6, hB⟩
      · refine rg_bt (t := 28) (pc' := 18) rfl rfl q6 ?_
        refine rg_p rfl rfl ?_
        obtain ⟨c7, hB⟩ := dg_e hB
        obtain ⟨r8, p9, hB⟩ := dp_e hB
        refine rg_gp rfl rfl rfl (of_decide_eq_true c7) p9 ?_
        refine rg_p rfl rfl ?_
        obtain ⟨c10, hB⟩ := dg_e hB
        obtain ⟨r11, p12, hB⟩ := dp_e hB
        refine rg_aa (t := 103) (by decide) rfl (ai_of c10) p12 ?_
        refine rg_p rfl rfl ?_
        show rg 47 35 _ _ _ _
        obtain ⟨c13, hB⟩ := dg_e hB
        obtain ⟨h14, e15, hB⟩ := dl_e hB
        refine rg_pi rfl rfl rfl (of_decide_eq_true c13) e15 ?_
        refine rg_p rfl rfl ?_
        obtain ⟨c16, hB⟩ := dg_e hB
        obtain ⟨r17, p18, hB⟩ := dp_e hB
        refine rg_gp rfl rfl rfl (of_decide_eq_true c16) p18 ?_
        refine rg_p rfl rfl ?_
        obtain ⟨c19, hB⟩ := dg_e hB
        obtain ⟨r20, p21, hB⟩ := dp_e hB
        refine rg_aa (t := 103) (by decide) rfl (ai_of c19) p21 ?_
        refine rg_p rfl rfl ?_
        show rg 47 45 _ _ _ _
        obtain ⟨c22, hB⟩ := dg_e hB
        obtain ⟨h23, e24, hB⟩ := dl_e hB
        refine rg_pi rfl rfl rfl (of_decide_eq_true c22) e24 ?_
        cases hB
        exact rg_rv rfl rfl
      · refine rg_bf (t := 28) (pc' := 18) rfl rfl q6 ?_
        exact sB_47_18 f  _ _ _ _ h2 _ hB
  · subst hB
    exact rg_callX (rg_v9 (n := 1) (b := a0) (as := [.ref a0, .int a1]) (ar := []) rfl rfl rfl (Nat.le_of_ble_eq_true rfl) rfl rfl (Nat.le_of_ble_eq_true rfl) (of_decide_eq_true c1)) (sF_62 z3)
-- 48: RouteHouse.up(IZ)Z
def F_48 (f : Nat) (a0 : Nat) (a1 : Int32) (a2 : Int32) (h : hp_T) : Option ev_O := (dg (decide (hp_k h a0 = some (7, 0))) (dv (F_62 f a0 a1 h) fun h2 => (dg (decide (hp_k h2 a0 = some (7, 0))) (dp (hp_p h2 a0 0) fun r6 => (dg (aib 103 h2 r6 a1) (dp (hp_p h2 r6 (Int32.toNatClampNeg a1)) fun r9 => (dg (decide (hp_k h2 r9 = some (3, 0))) (dp (hp_p h2 r6 (Int32.toNatClampNeg a1)) fun r12 => (dg (decide (hp_k h2 r12 = some (3, 0))) (dg (dzb a2) (dl (wz h2 r12 2 a2) fun h16 => (dg (dzb (hp_z h2 r9 2)) (some (.inl (some (.int (hp_z h2 r9 2))), h16))))))))))))))
theorem sF_48 {f : Nat} {a0 : Nat} {a1 : Int32} {a2 : Int32} {h : hp_T} {o : ev_O} (hB : F_48 f a0 a1 a2 h = some o) : rm 48 [.ref a0, .int a1, .int a2] h o := by
  unfold F_48 at hB
  refine rm_in (L := [.ref a0, .int a1, .int a2, .null]) (Nat.le_of_ble_eq_true rfl) rfl ?_
  refine rg_p rfl rfl ?_
  refine rg_p rfl rfl ?_
  obtain ⟨c1, hB⟩ := dg_e hB
  rcases dv_e hB with ⟨h2, z3, hB⟩ | ⟨q4, h2, z3, hB⟩
  · refine rg_call (rg_v9 (n := 1) (b := a0) (as := [.ref a0, .int a1]) (ar := []) rfl rfl rfl (Nat.le_of_ble_eq_true rfl) rfl rfl (Nat.le_of_ble_eq_true rfl) (of_decide_eq_true c1)) (sF_62 z3) ?_
    refine rg_p rfl rfl ?_
    obtain ⟨c5, hB⟩ := dg_e hB
    obtain ⟨r6, p7, hB⟩ := dp_e hB
    refine rg_gp rfl rfl rfl (of_decide_eq_true c5) p7 ?_
    refine rg_p rfl rfl ?_
    obtain ⟨c8, hB⟩ := dg_e hB
    obtain ⟨r9, p10, hB⟩ := dp_e hB
    refine rg_aa (t := 103) (by decide) rfl (ai_of c8) p10 ?_
    obtain ⟨c11, hB⟩ := dg_e hB
    refine rg_gz rfl rfl rfl (of_decide_eq_true c11) ?_
    show rg 48 14 _ _ _ _
    refine rg_p (L' := [.ref a0, .int a1, .int a2, .int (hp_z h2 r9 2)]) rfl rfl ?_
    refine rg_p rfl rfl ?_
    refine rg_gp rfl rfl rfl (of_decide_eq_true c5) p7 ?_
    refine rg_p rfl rfl ?_
    obtain ⟨r12, p13, hB⟩ := dp_e hB
    refine rg_aa (t := 103) (by decide) rfl (ai_of c8) p13 ?_
    refine rg_p rfl rfl ?_
    show rg 48 22 _ _ _ _
    obtain ⟨c14, hB⟩ := dg_e hB
    obtain ⟨c15, hB⟩ := dg_e hB
    obtain ⟨h16, e17, hB⟩ := dl_e hB
    refine rg_pb rfl rfl rfl (of_decide_eq_true c14) (dz_of c15) e17 ?_
    refine rg_p rfl rfl ?_
    obtain ⟨c18, hB⟩ := dg_e hB
    cases hB
    exact rg_ri rfl rfl (dz_n (dz_of c18))
  · subst hB
    exact rg_callX (rg_v9 (n := 1) (b := a0) (as := [.ref a0, .int a1]) (ar := []) rfl rfl rfl (Nat.le_of_ble_eq_true rfl) rfl rfl (Nat.le_of_ble_eq_true rfl) (of_decide_eq_true c1)) (sF_62 z3)
-- 64: RouteHouse.refuseStrangeBits(I)V
def B_64_10 (f : Nat) (h : hp_T) : Option ev_O := (some (.inr 1, hp_thr h))
theorem sB_64_10 (f : Nat) (w0 : Value) (w1 : Value) (h : hp_T) (o : ev_O) (hB : B_64_10 f  h = some o) : rg 64 10 [w0, w1] [] h o := by
  unfold B_64_10 at hB
  cases hB
  exact rg_th rfl rfl (Nat.le_of_ble_eq_true rfl)
def F_64 (f : Nat) (a0 : Nat) (a1 : Int32) (h : hp_T) : Option ev_O := (db (ev_c .lt a1 0) (B_64_10 f   h) (db (ev_c .le a1 (32 : Int32)) (some (.inl none, h)) (B_64_10 f   h)))
theorem sF_64 {f : Nat} {a0 : Nat} {a1 : Int32} {h : hp_T} {o : ev_O} (hB : F_64 f a0 a1 h = some o) : rm 64 [.ref a0, .int a1] h o := by
  unfold F_64 at hB
  refine rm_in (L := [.ref a0, .int a1]) (Nat.le_of_ble_eq_true rfl) rfl ?_
  refine rg_p rfl rfl ?_
  rcases db_e hB with ⟨q1, hB⟩ | ⟨q1, hB⟩
  · refine rg_bt (t := 10) (pc' := 4) rfl rfl q1 ?_
    exact sB_64_10 f  _ _ h _ hB
  · refine rg_bf (t := 10) (pc' := 4) rfl rfl q1 ?_
    refine rg_p rfl rfl ?_
    refine rg_bi (v := (32 : Int32)) rfl (by decide) ?_
    rcases db_e hB with ⟨q2, hB⟩ | ⟨q2, hB⟩
    · refine rg_bt (t := 20) (pc' := 10) rfl rfl q2 ?_
      cases hB
      exact rg_rv rfl rfl
    · refine rg_bf (t := 20) (pc' := 10) rfl rfl q2 ?_
      exact sB_64_10 f  _ _ h _ hB
-- 49: RouteHouse.route(IIII)I
def B_49_50 (f : Nat) (l0 : Nat) (l1 : Int32) (l2 : Int32) (l3 : Int32) (l4 : Int32) (l5 : Int32) (h : hp_T) : Option ev_O := (dg (decide (hp_k h l0 = some (7, 0))) (dp (hp_p h l0 1) fun r2 => (dg (decide (hp_k h r2 = some (4, 0))) (dv (F_30 f r2 l5 l1 l2 l3 l4 h) fun h5 => (dg (decide (hp_k h5 l0 = some (7, 0))) (dp (hp_p h5 l0 1) fun r9 => (dg (decide (hp_k h5 r9 = some (4, 0))) (some (.inl (some (.int (hp_z h5 r9 4))), h5)))))))))
theorem sB_49_50 (f : Nat) (l0 : Nat) (l1 : Int32) (l2 : Int32) (l3 : Int32) (l4 : Int32) (l5 : Int32) (h : hp_T) (o : ev_O) (hB : B_49_50 f l0 l1 l2 l3 l4 l5 h = some o) : rg 49 50 [.ref l0, .int l1, .int l2, .int l3, .int l4, .int l5] [] h o := by
  unfold B_49_50 at hB
  refine rg_p rfl rfl ?_
  obtain ⟨c1, hB⟩ := dg_e hB
  obtain ⟨r2, p3, hB⟩ := dp_e hB
  refine rg_gp rfl rfl rfl (of_decide_eq_true c1) p3 ?_
  refine rg_p rfl rfl ?_
  refine rg_p rfl rfl ?_
  refine rg_p rfl rfl ?_
  show rg 49 58 _ _ _ _
  refine rg_p rfl rfl ?_
  refine rg_p rfl rfl ?_
  obtain ⟨c4, hB⟩ := dg_e hB
  rcases dv_e hB with ⟨h5, z6, hB⟩ | ⟨q7, h5, z6, hB⟩
  · refine rg_call (rg_v9 (n := 5) (b := r2) (as := [.ref r2, .int l5, .int l1, .int l2, .int l3, .int l4]) (ar := []) rfl rfl rfl (Nat.le_of_ble_eq_true rfl) rfl rfl (Nat.le_of_ble_eq_true rfl) (of_decide_eq_true c4)) (sF_30 z6) ?_
    refine rg_p rfl rfl ?_
    obtain ⟨c8, hB⟩ := dg_e hB
    obtain ⟨r9, p10, hB⟩ := dp_e hB
    refine rg_gp rfl rfl rfl (of_decide_eq_true c8) p10 ?_
    obtain ⟨c11, hB⟩ := dg_e hB
    refine rg_gz rfl rfl rfl (of_decide_eq_true c11) ?_
    cases hB
    exact rg_ri rfl rfl rfl
  · subst hB
    exact rg_callX (rg_v9 (n := 5) (b := r2) (as := [.ref r2, .int l5, .int l1, .int l2, .int l3, .int l4]) (ar := []) rfl rfl rfl (Nat.le_of_ble_eq_true rfl) rfl rfl (Nat.le_of_ble_eq_true rfl) (of_decide_eq_true c4)) (sF_30 z6)
def F_49 (f : Nat) (a0 : Nat) (a1 : Int32) (a2 : Int32) (a3 : Int32) (a4 : Int32) (h : hp_T) : Option ev_O := (dg (decide (hp_k h a0 = some (7, 0))) (dv (F_64 f a0 a2 h) fun h2 => (dg (decide (hp_k h2 a0 = some (7, 0))) (dv (F_62 f a0 a3 h2) fun h6 => (dg (decide (hp_k h6 a0 = some (7, 0))) (dp (hp_p h6 a0 1) fun r10 => (dg (decide (hp_k h6 r10 = some (4, 0))) (di (F_28 f r10 a1 a2 h6) fun v16 h13 => (db (ev_c .ne v16 (-1 : Int32)) (B_49_50 f  a0 a1 a2 a3 a4 v16 h13) (dg (decide (hp_k h13 a0 = some (7, 0))) (dp (hp_p h13 a0 1) fun r19 => (dg (decide (hp_k h13 r19 = some (4, 0))) (db (ev_c .lt (hp_z h13 r19 4) (400 : Int32)) (B_49_50 f  a0 a1 a2 a3 a4 v16 h13) (some (.inr 2, hp_thr h13)))))))))))))))
theorem sF_49 {f : Nat} {a0 : Nat} {a1 : Int32} {a2 : Int32} {a3 : Int32} {a4 : Int32} {h : hp_T} {o : ev_O} (hB : F_49 f a0 a1 a2 a3 a4 h = some o) : rm 49 [.ref a0, .int a1, .int a2, .int a3, .int a4] h o := by
  unfold F_49 at hB
  refine rm_in (L := [.ref a0, .int a1, .int a2, .int a3, .int a4, .null]) (Nat.le_of_ble_eq_true rfl) rfl ?_
  refine rg_p rfl rfl ?_
  refine rg_p rfl rfl ?_
  obtain ⟨c1, hB⟩ := dg_e hB
  rcases dv_e hB with ⟨h2, z3, hB⟩ | ⟨q4, h2, z3, hB⟩
  · refine rg_call (rg_v9 (n := 1) (b := a0) (as := [.ref a0, .int a2]) (ar := []) rfl rfl rfl (Nat.le_of_ble_eq_true rfl) rfl rfl (Nat.le_of_ble_eq_true rfl) (of_decide_eq_true c1)) (sF_64 z3) ?_
    refine rg_p rfl rfl ?_
    refine rg_p rfl rfl ?_
    obtain ⟨c5, hB⟩ := dg_e hB
    rcases dv_e hB with ⟨h6, z7, hB⟩ | ⟨q8, h6, z7, hB⟩
    · refine rg_call (rg_v9 (n := 1) (b := a0) (as := [.ref a0, .int a3]) (ar := []) rfl rfl rfl (Nat.le_of_ble_eq_true rfl) rfl rfl (Nat.le_of_ble_eq_true rfl) (of_decide_eq_true c5)) (sF_62 z7) ?_
      refine rg_p rfl rfl ?_
      obtain ⟨c9, hB⟩ := dg_e hB
      obtain ⟨r10, p11, hB⟩ := dp_e hB
      refine rg_gp rfl rfl rfl (of_decide_eq_true c9) p11 ?_
      refine rg_p rfl rfl ?_
      refine rg_p rfl rfl ?_
      obtain ⟨c12, hB⟩ := dg_e hB
      rcases di_e hB with ⟨v16, h13, z14, hB⟩ | ⟨q15, h13, z14, hB⟩
      · refine rg_call (rg_v9 (n := 2) (b := r10) (as := [.ref r10, .int a1, .int a2]) (ar := []) rfl rfl rfl (Nat.le_of_ble_eq_true rfl) rfl rfl (Nat.le_of_ble_eq_true rfl) (of_decide_eq_true c12)) (sF_28 z14) ?_
        refine rg_p (L' := [.ref a0, .int a1, .int a2, .int a3, .int a4, .int v16]) rfl rfl ?_
        refine rg_p rfl rfl ?_
        refine rg_ic (v := (-1 : Int32)) rfl (by decide) ?_
        rcases db_e hB with ⟨q17, hB⟩ | ⟨q17, hB⟩
        · refine rg_bt (t := 50) (pc' := 27) rfl rfl q17 ?_
          exact sB_49_50 f  _ _ _ _ _ _ h13 _ hB
        · refine rg_bf (t := 50) (pc' := 27) rfl rfl q17 ?_
          refine rg_p rfl rfl ?_
          obtain ⟨c18, hB⟩ := dg_e hB
          obtain ⟨r19, p20, hB⟩ := dp_e hB
          refine rg_gp rfl rfl rfl (of_decide_eq_true c18) p20 ?_
          obtain ⟨c21, hB⟩ := dg_e hB
          refine rg_gz rfl rfl rfl (of_decide_eq_true c21) ?_
          refine rg_si (v := (400 : Int32)) rfl (by decide) ?_
          rcases db_e hB with ⟨q22, hB⟩ | ⟨q22, hB⟩
          · refine rg_bt (t := 50) (pc' := 40) rfl rfl q22 ?_
            exact sB_49_50 f  _ _ _ _ _ _ h13 _ hB
          · refine rg_bf (t := 50) (pc' := 40) rfl rfl q22 ?_
            cases hB
            exact rg_th rfl rfl (Nat.le_of_ble_eq_true rfl)
      · subst hB
        exact rg_callX (rg_v9 (n := 2) (b := r10) (as := [.ref r10, .int a1, .int a2]) (ar := []) rfl rfl rfl (Nat.le_of_ble_eq_true rfl) rfl rfl (Nat.le_of_ble_eq_true rfl) (of_decide_eq_true c12)) (sF_28 z14)
    · subst hB
      exact rg_callX (rg_v9 (n := 1) (b := a0) (as := [.ref a0, .int a3]) (ar := []) rfl rfl rfl (Nat.le_of_ble_eq_true rfl) rfl rfl (Nat.le_of_ble_eq_true rfl) (of_decide_eq_true c5)) (sF_62 z7)
  · subst hB
    exact rg_callX (rg_v9 (n := 1) (b := a0) (as := [.ref a0, .int a2]) (ar := []) rfl rfl rfl (Nat.le_of_ble_eq_true rfl) rfl rfl (Nat.le_of_ble_eq_true rfl) (of_decide_eq_true c1)) (sF_64 z3)
-- 50: RouteHouse.unroute(II)Z
def F_50 (f : Nat) (a0 : Nat) (a1 : Int32) (a2 : Int32) (h : hp_T) : Option ev_O := (dg (decide (hp_k h a0 = some (7, 0))) (dv (F_64 f a0 a2 h) fun h2 => (dg (decide (hp_k h2 a0 = some (7, 0))) (dp (hp_p h2 a0 1) fun r6 => (dg (decide (hp_k h2 r6 = some (4, 0))) (di (F_28 f r6 a1 a2 h2) fun v12 h9 => (db (ev_c .ne v12 (-1 : Int32)) (dg (decide (hp_k h9 a0 = some (7, 0))) (dp (hp_p h9 a0 1) fun r15 => (dg (decide (hp_k h9 r15 = some (4, 0))) (dv (F_31 f r15 v12 h9) fun h18 => (some (.inl (some (.int (1 : Int32))), h18)))))) (some (.inl (some (.int (0 : Int32))), h9)))))))))
theorem sF_50 {f : Nat} {a0 : Nat} {a1 : Int32} {a2 : Int32} {h : hp_T} {o : ev_O} (hB : F_50 f a0 a1 a2 h = some o) : rm 50 [.ref a0, .int a1, .int a2] h o := by
  unfold F_50 at hB
  refine rm_in (L := [.ref a0, .int a1, .int a2, .null]) (Nat.le_of_ble_eq_true rfl) rfl ?_
  refine rg_p rfl rfl ?_
  refine rg_p rfl rfl ?_
  obtain ⟨c1, hB⟩ := dg_e hB
  rcases dv_e hB with ⟨h2, z3, hB⟩ | ⟨q4, h2, z3, hB⟩
  · refine rg_call (rg_v9 (n := 1) (b := a0) (as := [.ref a0, .int a2]) (ar := []) rfl rfl rfl (Nat.le_of_ble_eq_true rfl) rfl rfl (Nat.le_of_ble_eq_true rfl) (of_decide_eq_true c1)) (sF_64 z3) ?_
    refine rg_p rfl rfl ?_
    obtain ⟨c5, hB⟩ := dg_e hB
    obtain ⟨r6, p7, hB⟩ := dp_e hB
    refine rg_gp rfl rfl rfl (of_decide_eq_true c5) p7 ?_
    refine rg_p rfl rfl ?_
    refine rg_p rfl rfl ?_
    obtain ⟨c8, hB⟩ := dg_e hB
    rcases di_e hB with ⟨v12, h9, z10, hB⟩ | ⟨q11, h9, z10, hB⟩
    · refine rg_call (rg_v9 (n := 2) (b := r6) (as := [.ref r6, .int a1, .int a2]) (ar := []) rfl rfl rfl (Nat.le_of_ble_eq_true rfl) rfl rfl (Nat.le_of_ble_eq_true rfl) (of_decide_eq_true c8)) (sF_28 z10) ?_
      refine rg_p (L' := [.ref a0, .int a1, .int a2, .int v12]) rfl rfl ?_
      refine rg_p rfl rfl ?_
      refine rg_ic (v := (-1 : Int32)) rfl (by decide) ?_
      rcases db_e hB with ⟨q13, hB⟩ | ⟨q13, hB⟩
      · refine rg_bt (t := 22) (pc' := 20) rfl rfl q13 ?_
        refine rg_p rfl rfl ?_
        obtain ⟨c14, hB⟩ := dg_e hB
        obtain ⟨r15, p16, hB⟩ := dp_e hB
        refine rg_gp rfl rfl rfl (of_decide_eq_true c14) p16 ?_
        refine rg_p rfl rfl ?_
        obtain ⟨c17, hB⟩ := dg_e hB
        rcases dv_e hB with ⟨h18, z19, hB⟩ | ⟨q20, h18, z19, hB⟩
        · refine rg_call (rg_v9 (n := 1) (b := r15) (as := [.ref r15, .int v12]) (ar := []) rfl rfl rfl (Nat.le_of_ble_eq_true rfl) rfl rfl (Nat.le_of_ble_eq_true rfl) (of_decide_eq_true c17)) (sF_31 z19) ?_
          refine rg_ic (v := (1 : Int32)) rfl (by decide) ?_
          cases hB
          exact rg_ri rfl rfl (dz_n dz_1)
        · subst hB
          exact rg_callX (rg_v9 (n := 1) (b := r15) (as := [.ref r15, .int v12]) (ar := []) rfl rfl rfl (Nat.le_of_ble_eq_true rfl) rfl rfl (Nat.le_of_ble_eq_true rfl) (of_decide_eq_true c17)) (sF_31 z19)
      · refine rg_bf (t := 22) (pc' := 20) rfl rfl q13 ?_
        refine rg_ic (v := (0 : Int32)) rfl (by decide) ?_
        cases hB
        exact rg_ri rfl rfl (dz_n dz_0)
    · subst hB
      exact rg_callX (rg_v9 (n := 2) (b := r6) (as := [.ref r6, .int a1, .int a2]) (ar := []) rfl rfl rfl (Nat.le_of_ble_eq_true rfl) rfl rfl (Nat.le_of_ble_eq_true rfl) (of_decide_eq_true c8)) (sF_28 z10)
  · subst hB
    exact rg_callX (rg_v9 (n := 1) (b := a0) (as := [.ref a0, .int a2]) (ar := []) rfl rfl rfl (Nat.le_of_ble_eq_true rfl) rfl rfl (Nat.le_of_ble_eq_true rfl) (of_decide_eq_true c1)) (sF_64 z3)
-- 51: RouteHouse.lookup(II)I
def B_51_84 (f : Nat) (s0 : Int32) (h : hp_T) : Option ev_O := (some (.inl (some (.int s0)), h))
theorem sB_51_84 (f : Nat) (s0 : Int32) (w0 : Value) (w1 : Value) (w2 : Value) (w3 : Value) (h : hp_T) (o : ev_O) (hB : B_51_84 f s0 h = some o) : rg 51 84 [w0, w1, w2, w3] [.int s0] h o := by
  unfold B_51_84 at hB
  cases hB
  exact rg_ri rfl rfl rfl
def B_51_43 (f : Nat) (s0 : Int32) (h : hp_T) : Option ev_O := (some (.inl (some (.int s0)), h))
theorem sB_51_43 (f : Nat) (s0 : Int32) (w0 : Value) (w1 : Value) (w2 : Value) (w3 : Value) (h : hp_T) (o : ev_O) (hB : B_51_43 f s0 h = some o) : rg 51 43 [w0, w1, w2, w3] [.int s0] h o := by
  unfold B_51_43 at hB
  cases hB
  exact rg_ri rfl rfl rfl
def B_51_9 (f : Nat) (h : hp_T) : Option ev_O := (some (.inr 1, hp_thr h))
theorem sB_51_9 (f : Nat) (w0 : Value) (w1 : Value) (w2 : Value) (w3 : Value) (h : hp_T) (o : ev_O) (hB : B_51_9 f  h = some o) : rg 51 9 [w0, w1, w2, w3] [] h o := by
  unfold B_51_9 at hB
  cases hB
  exact rg_th rfl rfl (Nat.le_of_ble_eq_true rfl)
def F_51 (f : Nat) (a0 : Nat) (a1 : Int32) (a2 : Int32) (h : hp_T) : Option ev_O := (db (ev_c .lt a2 0) (B_51_9 f   h) (db (ev_c .le a2 (2 : Int32)) (dg (decide (hp_k h a0 = some (7, 0))) (dp (hp_p h a0 1) fun r4 => (dg (decide (hp_k h r4 = some (4, 0))) (di (F_29 f r4 a1 h) fun v10 h7 => (db (ev_c .ne v10 (-1 : Int32)) (db (ev_c .ne a2 0) (db (ev_c .ne a2 (1 : Int32)) (dg (decide (hp_k h7 a0 = some (7, 0))) (dp (hp_p h7 a0 1) fun r15 => (dg (decide (hp_k h7 r15 = some (4, 0))) (dp (hp_p h7 r15 3) fun r18 => (dg (aib 64 h7 r18 v10) (B_51_84 f  (hp_z h7 r18 (Int32.toNatClampNeg v10)) h7)))))) (dg (decide (hp_k h7 a0 = some (7, 0))) (dp (hp_p h7 a0 1) fun r22 => (dg (decide (hp_k h7 r22 = some (4, 0))) (dp (hp_p h7 r22 1) fun r25 => (dg (aib 64 h7 r25 v10) (B_51_84 f  (hp_z h7 r25 (Int32.toNatClampNeg v10)) h7))))))) (dg (decide (hp_k h7 a0 = some (7, 0))) (dp (hp_p h7 a0 1) fun r29 => (dg (decide (hp_k h7 r29 = some (4, 0))) (dp (hp_p h7 r29 2) fun r32 => (dg (aib 64 h7 r32 v10) (some (.inl (some (.int (hp_z h7 r32 (Int32.toNatClampNeg v10)))), h7)))))))) (db (ev_c .ne a2 (2 : Int32)) (B_51_43 f  (-1 : Int32) h7) (B_51_43 f  (0 : Int32) h7))))))) (B_51_9 f   h)))
theorem sF_51 {f : Nat} {a0 : Nat} {a1 : Int32} {a2 : Int32} {h : hp_T} {o : ev_O} (hB : F_51 f a0 a1 a2 h = some o) : rm 51 [.ref a0, .int a1, .int a2] h o := by
  unfold F_51 at hB
  refine rm_in (L := [.ref a0, .int a1, .int a2, .null]) (Nat.le_of_ble_eq_true rfl) rfl ?_
  refine rg_p rfl rfl ?_
  rcases db_e hB with ⟨q1, hB⟩ | ⟨q1, hB⟩
  · refine rg_bt (t := 9) (pc' := 4) rfl rfl q1 ?_
    exact sB_51_9 f  _ _ _ _ h _ hB
  · refine rg_bf (t := 9) (pc' := 4) rfl rfl q1 ?_
    refine rg_p rfl rfl ?_
    refine rg_ic (v := (2 : Int32)) rfl (by decide) ?_
    rcases db_e hB with ⟨q2, hB⟩ | ⟨q2, hB⟩
    · refine rg_bt (t := 19) (pc' := 9) rfl rfl q2 ?_
      refine rg_p rfl rfl ?_
      obtain ⟨c3, hB⟩ := dg_e hB
      obtain ⟨r4, p5, hB⟩ := dp_e hB
      refine rg_gp rfl rfl rfl (of_decide_eq_true c3) p5 ?_
      refine rg_p rfl rfl ?_
      obtain ⟨c6, hB⟩ := dg_e hB
      rcases di_e hB with ⟨v10, h7, z8, hB⟩ | ⟨q9, h7, z8, hB⟩
      · refine rg_call (rg_v9 (n := 1) (b := r4) (as := [.ref r4, .int a1]) (ar := []) rfl rfl rfl (Nat.le_of_ble_eq_true rfl) rfl rfl (Nat.le_of_ble_eq_true rfl) (of_decide_eq_true c6)) (sF_29 z8) ?_
        refine rg_p (L' := [.ref a0, .int a1, .int a2, .int v10]) rfl rfl ?_
        refine rg_p rfl rfl ?_
        refine rg_ic (v := (-1 : Int32)) rfl (by decide) ?_
        rcases db_e hB with ⟨q11, hB⟩ | ⟨q11, hB⟩
        · refine rg_bt (t := 44) (pc' := 33) rfl rfl q11 ?_
          refine rg_p rfl rfl ?_
          rcases db_e hB with ⟨q12, hB⟩ | ⟨q12, hB⟩
          · refine rg_bt (t := 58) (pc' := 48) rfl rfl q12 ?_
            refine rg_p rfl rfl ?_
            refine rg_ic (v := (1 : Int32)) rfl (by decide) ?_
            rcases db_e hB with ⟨q13, hB⟩ | ⟨q13, hB⟩
            · refine rg_bt (t := 75) (pc' := 63) rfl rfl q13 ?_
              refine rg_p rfl rfl ?_
              obtain ⟨c14, hB⟩ := dg_e hB
              obtain ⟨r15, p16, hB⟩ := dp_e hB
              refine rg_gp rfl rfl rfl (of_decide_eq_true c14) p16 ?_
              obtain ⟨c17, hB⟩ := dg_e hB
              obtain ⟨r18, p19, hB⟩ := dp_e hB
              refine rg_gp rfl rfl rfl (of_decide_eq_true c17) p19 ?_
              refine rg_p rfl rfl ?_
              obtain ⟨c20, hB⟩ := dg_e hB
              refine rg_ia rfl (ai_of c20) ?_
              exact sB_51_84 f  _ _ _ _ _ h7 _ hB
            · refine rg_bf (t := 75) (pc' := 63) rfl rfl q13 ?_
              refine rg_p rfl rfl ?_
              obtain ⟨c21, hB⟩ := dg_e hB
              obtain ⟨r22, p23, hB⟩ := dp_e hB
              refine rg_gp rfl rfl rfl (of_decide_eq_true c21) p23 ?_
              obtain ⟨c24, hB⟩ := dg_e hB
              obtain ⟨r25, p26, hB⟩ := dp_e hB
              refine rg_gp rfl rfl rfl (of_decide_eq_true c24) p26 ?_
              refine rg_p rfl rfl ?_
              obtain ⟨c27, hB⟩ := dg_e hB
              refine rg_ia rfl (ai_of c27) ?_
              show rg 51 72 _ _ _ _
              refine rg_p (pc' := 84) rfl rfl ?_
              exact sB_51_84 f  _ _ _ _ _ h7 _ hB
          · refine rg_bf (t := 58) (pc' := 48) rfl rfl q12 ?_
            refine rg_p rfl rfl ?_
            obtain ⟨c28, hB⟩ := dg_e hB
            obtain ⟨r29, p30, hB⟩ := dp_e hB
            refine rg_gp rfl rfl rfl (of_decide_eq_true c28) p30 ?_
            obtain ⟨c31, hB⟩ := dg_e hB
            obtain ⟨r32, p33, hB⟩ := dp_e hB
            refine rg_gp rfl rfl rfl (of_decide_eq_true c31) p33 ?_
            refine rg_p rfl rfl ?_
            obtain ⟨c34, hB⟩ := dg_e hB
            refine rg_ia rfl (ai_of c34) ?_
            show rg 51 57 _ _ _ _
            cases hB
            exact rg_ri rfl rfl rfl
        · refine rg_bf (t := 44) (pc' := 33) rfl rfl q11 ?_
          refine rg_p rfl rfl ?_
          refine rg_ic (v := (2 : Int32)) rfl (by decide) ?_
          rcases db_e hB with ⟨q35, hB⟩ | ⟨q35, hB⟩
          · refine rg_bt (t := 42) (pc' := 38) rfl rfl q35 ?_
            refine rg_ic (v := (-1 : Int32)) rfl (by decide) ?_
            exact sB_51_43 f  _ _ _ _ _ h7 _ hB
          · refine rg_bf (t := 42) (pc' := 38) rfl rfl q35 ?_
            refine rg_ic (v := (0 : Int32)) rfl (by decide) ?_
            refine rg_p (pc' := 43) rfl rfl ?_
            exact sB_51_43 f  _ _ _ _ _ h7 _ hB
      · subst hB
        exact rg_callX (rg_v9 (n := 1) (b := r4) (as := [.ref r4, .int a1]) (ar := []) rfl rfl rfl (Nat.le_of_ble_eq_true rfl) rfl rfl (Nat.le_of_ble_eq_true rfl) (of_decide_eq_true c6)) (sF_29 z8)
    · refine rg_bf (t := 19) (pc' := 9) rfl rfl q2 ?_
      exact sB_51_9 f  _ _ _ _ h _ hB
-- 122: RouteHouse$Wire.setFour([BII)V
def F_122 (f : Nat) (a0 : Nat) (a1 : Int32) (a2 : Int32) (h : hp_T) : Option ev_O := (dg (aib 65 h a0 a1) (dl (wz h a0 (Int32.toNatClampNeg a1) (vp_nar .byte ((a2 >>> ((24 : Int32) &&& 31))).toInt8.toInt32)) fun h2 => (dg (aib 65 h2 a0 (a1 + (1 : Int32))) (dl (wz h2 a0 (Int32.toNatClampNeg (a1 + (1 : Int32))) (vp_nar .byte ((a2 >>> ((16 : Int32) &&& 31))).toInt8.toInt32)) fun h5 => (dg (aib 65 h5 a0 (a1 + (2 : Int32))) (dl (wz h5 a0 (Int32.toNatClampNeg (a1 + (2 : Int32))) (vp_nar .byte ((a2 >>> ((8 : Int32) &&& 31))).toInt8.toInt32)) fun h8 => (dg (aib 65 h8 a0 (a1 + (3 : Int32))) (dl (wz h8 a0 (Int32.toNatClampNeg (a1 + (3 : Int32))) (vp_nar .byte (a2).toInt8.toInt32)) fun h11 => (some (.inl none, h11))))))))))
theorem sF_122 {f : Nat} {a0 : Nat} {a1 : Int32} {a2 : Int32} {h : hp_T} {o : ev_O} (hB : F_122 f a0 a1 a2 h = some o) : rm 122 [.ref a0, .int a1, .int a2] h o := by
  unfold F_122 at hB
  refine rm_in (L := [.ref a0, .int a1, .int a2]) (Nat.le_of_ble_eq_true rfl) rfl ?_
  refine rg_p rfl rfl ?_
  refine rg_p rfl rfl ?_
  refine rg_p rfl rfl ?_
  refine rg_bi (v := (24 : Int32)) rfl (by decide) ?_
  refine rg_p rfl rfl ?_
  show rg 122 6 _ _ _ _
  refine rg_p rfl rfl ?_
  obtain ⟨c1, hB⟩ := dg_e hB
  obtain ⟨h2, e3, hB⟩ := dl_e hB
  refine rg_bs (t := 65) (ty := .byte) (by decide) rfl rfl (ai_of c1) e3 ?_
  refine rg_p rfl rfl ?_
  refine rg_p rfl rfl ?_
  refine rg_ic (v := (1 : Int32)) rfl (by decide) ?_
  refine rg_p rfl rfl ?_
  show rg 122 12 _ _ _ _
  refine rg_p rfl rfl ?_
  refine rg_bi (v := (16 : Int32)) rfl (by decide) ?_
  refine rg_p rfl rfl ?_
  refine rg_p rfl rfl ?_
  obtain ⟨c4, hB⟩ := dg_e hB
  obtain ⟨h5, e6, hB⟩ := dl_e hB
  refine rg_bs (t := 65) (ty := .byte) (by decide) rfl rfl (ai_of c4) e6 ?_
  refine rg_p rfl rfl ?_
  show rg 122 19 _ _ _ _
  refine rg_p rfl rfl ?_
  refine rg_ic (v := (2 : Int32)) rfl (by decide) ?_
  refine rg_p rfl rfl ?_
  refine rg_p rfl rfl ?_
  refine rg_bi (v := (8 : Int32)) rfl (by decide) ?_
  refine rg_p rfl rfl ?_
  show rg 122 26 _ _ _ _
  refine rg_p rfl rfl ?_
  obtain ⟨c7, hB⟩ := dg_e hB
  obtain ⟨h8, e9, hB⟩ := dl_e hB
  refine rg_bs (t := 65) (ty := .byte) (by decide) rfl rfl (ai_of c7) e9 ?_
  refine rg_p rfl rfl ?_
  refine rg_p rfl rfl ?_
  refine rg_ic (v := (3 : Int32)) rfl (by decide) ?_
  refine rg_p rfl rfl ?_
  show rg 122 32 _ _ _ _
  refine rg_p rfl rfl ?_
  refine rg_p rfl rfl ?_
  obtain ⟨c10, hB⟩ := dg_e hB
  obtain ⟨h11, e12, hB⟩ := dl_e hB
  refine rg_bs (t := 65) (ty := .byte) (by decide) rfl rfl (ai_of c10) e12 ?_
  cases hB
  exact rg_rv rfl rfl
-- 52: RouteHouse.feed(IIIII)I
def F_52 (f : Nat) (a0 : Nat) (a1 : Int32) (a2 : Int32) (a3 : Int32) (a4 : Int32) (a5 : Int32) (h : hp_T) : Option ev_O := (dg (decide (hp_k h a0 = some (7, 0))) (dp (hp_p h a0 2) fun r2 => (dg (decide (hp_k h r2 = some (2, 0))) (db (ev_c .le ((hp_z h r2 1) + (20 : Int32)) (2000 : Int32)) (dp (hp_p h r2 0) fun r6 => (dv (F_122 f r6 (hp_z h r2 1) a1 h) fun h8 => (dg (decide (hp_k h8 a0 = some (7, 0))) (dp (hp_p h8 a0 2) fun r12 => (dg (decide (hp_k h8 r12 = some (2, 0))) (dp (hp_p h8 r12 0) fun r15 => (dv (F_122 f r15 ((hp_z h r2 1) + (4 : Int32)) a2 h8) fun h17 => (dg (decide (hp_k h17 a0 = some (7, 0))) (dp (hp_p h17 a0 2) fun r21 => (dg (decide (hp_k h17 r21 = some (2, 0))) (dp (hp_p h17 r21 0) fun r24 => (dv (F_122 f r24 ((hp_z h r2 1) + (8 : Int32)) a3 h17) fun h26 => (dg (decide (hp_k h26 a0 = some (7, 0))) (dp (hp_p h26 a0 2) fun r30 => (dg (decide (hp_k h26 r30 = some (2, 0))) (dp (hp_p h26 r30 0) fun r33 => (dv (F_122 f r33 ((hp_z h r2 1) + (12 : Int32)) a4 h26) fun h35 => (dg (decide (hp_k h35 a0 = some (7, 0))) (dp (hp_p h35 a0 2) fun r39 => (dg (decide (hp_k h35 r39 = some (2, 0))) (dp (hp_p h35 r39 0) fun r42 => (dv (F_122 f r42 ((hp_z h r2 1) + (16 : Int32)) a5 h35) fun h44 => (dg (decide (hp_k h44 a0 = some (7, 0))) (dp (hp_p h44 a0 2) fun r48 => (dg (decide (hp_k h44 r48 = some (2, 0))) (dl (wz h44 r48 1 ((hp_z h r2 1) + (20 : Int32))) fun h51 => (dg (decide (hp_k h51 a0 = some (7, 0))) (dp (hp_p h51 a0 2) fun r54 => (dg (decide (hp_k h51 r54 = some (2, 0))) (some (.inl (some (.int (hp_z h51 r54 1))), h51))))))))))))))))))))))))))))))) (some (.inr 3, hp_thr h))))))
theorem sF_52 {f : Nat} {a0 : Nat} {a1 : Int32} {a2 : Int32} {a3 : Int32} {a4 : Int32} {a5 : Int32} {h : hp_T} {o : ev_O} (hB : F_52 f a0 a1 a2 a3 a4 a5 h = some o) : rm 52 [.ref a0, .int a1, .int a2, .int a3, .int a4, .int a5] h o := by
  unfold F_52 at hB
  refine rm_in (L := [.ref a0, .int a1, .int a2, .int a3, .int a4, .int a5, .null]) (Nat.le_of_ble_eq_true rfl) rfl ?_
  refine rg_p rfl rfl ?_
  obtain ⟨c1, hB⟩ := dg_e hB
  obtain ⟨r2, p3, hB⟩ := dp_e hB
  refine rg_gp rfl rfl rfl (of_decide_eq_true c1) p3 ?_
  obtain ⟨c4, hB⟩ := dg_e hB
  refine rg_gz rfl rfl rfl (of_decide_eq_true c4) ?_
  refine rg_p (L' := [.ref a0, .int a1, .int a2, .int a3, .int a4, .int a5, .int (hp_z h r2 1)]) rfl rfl ?_
  refine rg_p rfl rfl ?_
  show rg 52 11 _ _ _ _
  refine rg_bi (v := (20 : Int32)) rfl (by decide) ?_
  refine rg_p rfl rfl ?_
  refine rg_si (v := (2000 : Int32)) rfl (by decide) ?_
  rcases db_e hB with ⟨q5, hB⟩ | ⟨q5, hB⟩
  · refine rg_bt (t := 30) (pc' := 20) rfl rfl q5 ?_
    refine rg_p rfl rfl ?_
    refine rg_gp rfl rfl rfl (of_decide_eq_true c1) p3 ?_
    obtain ⟨r6, p7, hB⟩ := dp_e hB
    refine rg_gp rfl rfl rfl (of_decide_eq_true c4) p7 ?_
    refine rg_p rfl rfl ?_
    refine rg_p rfl rfl ?_
    show rg 52 40 _ _ _ _
    rcases dv_e hB with ⟨h8, z9, hB⟩ | ⟨q10, h8, z9, hB⟩
    · refine rg_call (rg_s9 (n := 3) (as := [.ref r6, .int (hp_z h r2 1), .int a1]) (ar := []) rfl (rg_s0 rfl) rfl rfl (Nat.le_of_ble_eq_true rfl) rfl rfl (Nat.le_of_ble_eq_true rfl)) (sF_122 z9) ?_
      refine rg_p rfl rfl ?_
      obtain ⟨c11, hB⟩ := dg_e hB
      obtain ⟨r12, p13, hB⟩ := dp_e hB
      refine rg_gp rfl rfl rfl (of_decide_eq_true c11) p13 ?_
      obtain ⟨c14, hB⟩ := dg_e hB
      obtain ⟨r15, p16, hB⟩ := dp_e hB
      refine rg_gp rfl rfl rfl (of_decide_eq_true c14) p16 ?_
      refine rg_p rfl rfl ?_
      refine rg_ic (v := (4 : Int32)) rfl (by decide) ?_
      show rg 52 53 _ _ _ _
      refine rg_p rfl rfl ?_
      refine rg_p rfl rfl ?_
      rcases dv_e hB with ⟨h17, z18, hB⟩ | ⟨q19, h17, z18, hB⟩
      · refine rg_call (rg_s9 (n := 3) (as := [.ref r15, .int ((hp_z h r2 1) + (4 : Int32)), .int a2]) (ar := []) rfl (rg_s0 rfl) rfl rfl (Nat.le_of_ble_eq_true rfl) rfl rfl (Nat.le_of_ble_eq_true rfl)) (sF_122 z18) ?_
        refine rg_p rfl rfl ?_
        obtain ⟨c20, hB⟩ := dg_e hB
        obtain ⟨r21, p22, hB⟩ := dp_e hB
        refine rg_gp rfl rfl rfl (of_decide_eq_true c20) p22 ?_
        obtain ⟨c23, hB⟩ := dg_e hB
        obtain ⟨r24, p25, hB⟩ := dp_e hB
        refine rg_gp rfl rfl rfl (of_decide_eq_true c23) p25 ?_
        refine rg_p rfl rfl ?_
        refine rg_bi (v := (8 : Int32)) rfl (by decide) ?_
        show rg 52 69 _ _ _ _
        refine rg_p rfl rfl ?_
        refine rg_p rfl rfl ?_
        rcases dv_e hB with ⟨h26, z27, hB⟩ | ⟨q28, h26, z27, hB⟩
        · refine rg_call (rg_s9 (n := 3) (as := [.ref r24, .int ((hp_z h r2 1) + (8 : Int32)), .int a3]) (ar := []) rfl (rg_s0 rfl) rfl rfl (Nat.le_of_ble_eq_true rfl) rfl rfl (Nat.le_of_ble_eq_true rfl)) (sF_122 z27) ?_
          refine rg_p rfl rfl ?_
          obtain ⟨c29, hB⟩ := dg_e hB
          obtain ⟨r30, p31, hB⟩ := dp_e hB
          refine rg_gp rfl rfl rfl (of_decide_eq_true c29) p31 ?_
          obtain ⟨c32, hB⟩ := dg_e hB
          obtain ⟨r33, p34, hB⟩ := dp_e hB
          refine rg_gp rfl rfl rfl (of_decide_eq_true c32) p34 ?_
          refine rg_p rfl rfl ?_
          refine rg_bi (v := (12 : Int32)) rfl (by decide) ?_
          show rg 52 85 _ _ _ _
          refine rg_p rfl rfl ?_
          refine rg_p rfl rfl ?_
          rcases dv_e hB with ⟨h35, z36, hB⟩ | ⟨q37, h35, z36, hB⟩
          · refine rg_call (rg_s9 (n := 3) (as := [.ref r33, .int ((hp_z h r2 1) + (12 : Int32)), .int a4]) (ar := []) rfl (rg_s0 rfl) rfl rfl (Nat.le_of_ble_eq_true rfl) rfl rfl (Nat.le_of_ble_eq_true rfl)) (sF_122 z36) ?_
            refine rg_p rfl rfl ?_
            obtain ⟨c38, hB⟩ := dg_e hB
            obtain ⟨r39, p40, hB⟩ := dp_e hB
            refine rg_gp rfl rfl rfl (of_decide_eq_true c38) p40 ?_
            obtain ⟨c41, hB⟩ := dg_e hB
            obtain ⟨r42, p43, hB⟩ := dp_e hB
            refine rg_gp rfl rfl rfl (of_decide_eq_true c41) p43 ?_
            refine rg_p rfl rfl ?_
            refine rg_bi (v := (16 : Int32)) rfl (by decide) ?_
            show rg 52 102 _ _ _ _
            refine rg_p rfl rfl ?_
            refine rg_p rfl rfl ?_
            rcases dv_e hB with ⟨h44, z45, hB⟩ | ⟨q46, h44, z45, hB⟩
            · refine rg_call (rg_s9 (n := 3) (as := [.ref r42, .int ((hp_z h r2 1) + (16 : Int32)), .int a5]) (ar := []) rfl (rg_s0 rfl) rfl rfl (Nat.le_of_ble_eq_true rfl) rfl rfl (Nat.le_of_ble_eq_true rfl)) (sF_122 z45) ?_
              refine rg_p rfl rfl ?_
              obtain ⟨c47, hB⟩ := dg_e hB
              obtain ⟨r48, p49, hB⟩ := dp_e hB
              refine rg_gp rfl rfl rfl (of_decide_eq_true c47) p49 ?_
              refine rg_p rfl rfl ?_
              refine rg_bi (v := (20 : Int32)) rfl (by decide) ?_
              refine rg_p rfl rfl ?_
              show rg 52 117 _ _ _ _
              obtain ⟨c50, hB⟩ := dg_e hB
              obtain ⟨h51, e52, hB⟩ := dl_e hB
              refine rg_pi rfl rfl rfl (of_decide_eq_true c50) e52 ?_
              refine rg_p rfl rfl ?_
              obtain ⟨c53, hB⟩ := dg_e hB
              obtain ⟨r54, p55, hB⟩ := dp_e hB
              refine rg_gp rfl rfl rfl (of_decide_eq_true c53) p55 ?_
              obtain ⟨c56, hB⟩ := dg_e hB
              refine rg_gz rfl rfl rfl (of_decide_eq_true c56) ?_
              cases hB
              exact rg_ri rfl rfl rfl
            · subst hB
              exact rg_callX (rg_s9 (n := 3) (as := [.ref r42, .int ((hp_z h r2 1) + (16 : Int32)), .int a5]) (ar := []) rfl (rg_s0 rfl) rfl rfl (Nat.le_of_ble_eq_true rfl) rfl rfl (Nat.le_of_ble_eq_true rfl)) (sF_122 z45)
          · subst hB
            exact rg_callX (rg_s9 (n := 3) (as := [.ref r33, .int ((hp_z h r2 1) + (12 : Int32)), .int a4]) (ar := []) rfl (rg_s0 rfl) rfl rfl (Nat.le_of_ble_eq_true rfl) rfl rfl (Nat.le_of_ble_eq_true rfl)) (sF_122 z36)
        · subst hB
          exact rg_callX (rg_s9 (n := 3) (as := [.ref r24, .int ((hp_z h r2 1) + (8 : Int32)), .int a3]) (ar := []) rfl (rg_s0 rfl) rfl rfl (Nat.le_of_ble_eq_true rfl) rfl rfl (Nat.le_of_ble_eq_true rfl)) (sF_122 z27)
      · subst hB
        exact rg_callX (rg_s9 (n := 3) (as := [.ref r15, .int ((hp_z h r2 1) + (4 : Int32)), .int a2]) (ar := []) rfl (rg_s0 rfl) rfl rfl (Nat.le_of_ble_eq_true rfl) rfl rfl (Nat.le_of_ble_eq_true rfl)) (sF_122 z18)
    · subst hB
      exact rg_callX (rg_s9 (n := 3) (as := [.ref r6, .int (hp_z h r2 1), .int a1]) (ar := []) rfl (rg_s0 rfl) rfl rfl (Nat.le_of_ble_eq_true rfl) rfl rfl (Nat.le_of_ble_eq_true rfl)) (sF_122 z9)
  · refine rg_bf (t := 30) (pc' := 20) rfl rfl q5 ?_
    cases hB
    exact rg_th rfl rfl (Nat.le_of_ble_eq_true rfl)
-- 53: RouteHouse.end(I)V
def B_53_15 (f : Nat) (h : hp_T) : Option ev_O := (some (.inr 1, hp_thr h))
theorem sB_53_15 (f : Nat) (w0 : Value) (w1 : Value) (h : hp_T) (o : ev_O) (hB : B_53_15 f  h = some o) : rg 53 15 [w0, w1] [] h o := by
  unfold B_53_15 at hB
  cases hB
  exact rg_th rfl rfl (Nat.le_of_ble_eq_true rfl)
def F_53 (f : Nat) (a0 : Nat) (a1 : Int32) (h : hp_T) : Option ev_O := (db (ev_c .lt a1 0) (B_53_15 f   h) (dg (decide (hp_k h a0 = some (7, 0))) (dp (hp_p h a0 2) fun r3 => (dg (decide (hp_k h r3 = some (2, 0))) (db (ev_c .le a1 (hp_z h r3 1)) (dl (wz h r3 1 a1) fun h7 => (some (.inl none, h7))) (B_53_15 f   h))))))
theorem sF_53 {f : Nat} {a0 : Nat} {a1 : Int32} {h : hp_T} {o : ev_O} (hB : F_53 f a0 a1 h = some o) : rm 53 [.ref a0, .int a1] h o := by
  unfold F_53 at hB
  refine rm_in (L := [.ref a0, .int a1]) (Nat.le_of_ble_eq_true rfl) rfl ?_
  refine rg_p rfl rfl ?_
  rcases db_e hB with ⟨q1, hB⟩ | ⟨q1, hB⟩
  · refine rg_bt (t := 15) (pc' := 4) rfl rfl q1 ?_
    exact sB_53_15 f  _ _ h _ hB
  · refine rg_bf (t := 15) (pc' := 4) rfl rfl q1 ?_
    refine rg_p rfl rfl ?_
    refine rg_p rfl rfl ?_
    obtain ⟨c2, hB⟩ := dg_e hB
    obtain ⟨r3, p4, hB⟩ := dp_e hB
    refine rg_gp rfl rfl rfl (of_decide_eq_true c2) p4 ?_
    obtain ⟨c5, hB⟩ := dg_e hB
    refine rg_gz rfl rfl rfl (of_decide_eq_true c5) ?_
    rcases db_e hB with ⟨q6, hB⟩ | ⟨q6, hB⟩
    · refine rg_bt (t := 25) (pc' := 15) rfl rfl q6 ?_
      refine rg_p rfl rfl ?_
      refine rg_gp rfl rfl rfl (of_decide_eq_true c2) p4 ?_
      refine rg_p rfl rfl ?_
      obtain ⟨h7, e8, hB⟩ := dl_e hB
      refine rg_pi rfl rfl rfl (of_decide_eq_true c5) e8 ?_
      cases hB
      exact rg_rv rfl rfl
    · refine rg_bf (t := 25) (pc' := 15) rfl rfl q6 ?_
      exact sB_53_15 f  _ _ h _ hB
-- 54: RouteHouse.sum(I)V
def B_54_24 (f : Nat) (h : hp_T) : Option ev_O := (some (.inr 1, hp_thr h))
theorem sB_54_24 (f : Nat) (w0 : Value) (w1 : Value) (h : hp_T) (o : ev_O) (hB : B_54_24 f  h = some o) : rg 54 24 [w0, w1] [] h o := by
  unfold B_54_24 at hB
  cases hB
  exact rg_th rfl rfl (Nat.le_of_ble_eq_true rfl)
def F_54 (f : Nat) (a0 : Nat) (a1 : Int32) (h : hp_T) : Option ev_O := (db (ev_c .lt a1 (5 : Int32)) (B_54_24 f   h) (db (ev_c .gt a1 (15 : Int32)) (B_54_24 f   h) (dg (decide (hp_k h a0 = some (7, 0))) (dp (hp_p h a0 2) fun r4 => (dg (decide (hp_k h r4 = some (2, 0))) (db (ev_c .le (a1 * (4 : Int32)) (hp_z h r4 1)) (dp (hp_p h r4 0) fun r8 => (di (F_123 f r8 (0 : Int32) (a1 * (4 : Int32)) (10 : Int32) h) fun v13 h10 => (dv (F_121 f r8 (10 : Int32) v13 h10) fun h14 => (some (.inl none, h14))))) (B_54_24 f   h)))))))
theorem sF_54 {f : Nat} {a0 : Nat} {a1 : Int32} {h : hp_T} {o : ev_O} (hB : F_54 f a0 a1 h = some o) : rm 54 [.ref a0, .int a1] h o := by
  unfold F_54 at hB
  refine rm_in (L := [.ref a0, .int a1]) (Nat.le_of_ble_eq_true rfl) rfl ?_
  refine rg_p rfl rfl ?_
  refine rg_ic (v := (5 : Int32)) rfl (by decide) ?_
  rcases db_e hB with ⟨q1, hB⟩ | ⟨q1, hB⟩
  · refine rg_bt (t := 24) (pc' := 5) rfl rfl q1 ?_
    exact sB_54_24 f  _ _ h _ hB
  · refine rg_bf (t := 24) (pc' := 5) rfl rfl q1 ?_
    refine rg_p rfl rfl ?_
    refine rg_bi (v := (15 : Int32)) rfl (by decide) ?_
    rcases db_e hB with ⟨q2, hB⟩ | ⟨q2, hB⟩
    · refine rg_bt (t := 24) (pc' := 11) rfl rfl q2 ?_
      exact sB_54_24 f  _ _ h _ hB
    · refine rg_bf (t := 24) (pc' := 11) rfl rfl q2 ?_
      refine rg_p rfl rfl ?_
      refine rg_ic (v := (4 : Int32)) rfl (by decide) ?_
      refine rg_p rfl rfl ?_
      refine rg_p rfl rfl ?_
      obtain ⟨c3, hB⟩ := dg_e hB
      obtain ⟨r4, p5, hB⟩ := dp_e hB
      refine rg_gp rfl rfl rfl (of_decide_eq_true c3) p5 ?_
      show rg 54 18 _ _ _ _
      obtain ⟨c6, hB⟩ := dg_e hB
      refine rg_gz rfl rfl rfl (of_decide_eq_true c6) ?_
      rcases db_e hB with ⟨q7, hB⟩ | ⟨q7, hB⟩
      · refine rg_bt (t := 34) (pc' := 24) rfl rfl q7 ?_
        refine rg_p rfl rfl ?_
        refine rg_gp rfl rfl rfl (of_decide_eq_true c3) p5 ?_
        obtain ⟨r8, p9, hB⟩ := dp_e hB
        refine rg_gp rfl rfl rfl (of_decide_eq_true c6) p9 ?_
        refine rg_bi (v := (10 : Int32)) rfl (by decide) ?_
        refine rg_p rfl rfl ?_
        show rg 54 44 _ _ _ _
        refine rg_gp rfl rfl rfl (of_decide_eq_true c3) p5 ?_
        refine rg_gp rfl rfl rfl (of_decide_eq_true c6) p9 ?_
        refine rg_ic (v := (0 : Int32)) rfl (by decide) ?_
        refine rg_p rfl rfl ?_
        refine rg_ic (v := (4 : Int32)) rfl (by decide) ?_
        refine rg_p rfl rfl ?_
        show rg 54 54 _ _ _ _
        refine rg_bi (v := (10 : Int32)) rfl (by decide) ?_
        rcases di_e hB with ⟨v13, h10, z11, hB⟩ | ⟨q12, h10, z11, hB⟩
        · refine rg_call (rg_s9 (n := 4) (as := [.ref r8, .int (0 : Int32), .int (a1 * (4 : Int32)), .int (10 : Int32)]) (ar := []) rfl (rg_s0 rfl) rfl rfl (Nat.le_of_ble_eq_true rfl) rfl rfl (Nat.le_of_ble_eq_true rfl)) (sF_123 z11) ?_
          rcases dv_e hB with ⟨h14, z15, hB⟩ | ⟨q16, h14, z15, hB⟩
          · refine rg_call (rg_s9 (n := 3) (as := [.ref r8, .int (10 : Int32), .int v13]) (ar := []) rfl (rg_s0 rfl) rfl rfl (Nat.le_of_ble_eq_true rfl) rfl rfl (Nat.le_of_ble_eq_true rfl)) (sF_121 z15) ?_
            cases hB
            exact rg_rv rfl rfl
          · subst hB
            exact rg_callX (rg_s9 (n := 3) (as := [.ref r8, .int (10 : Int32), .int v13]) (ar := []) rfl (rg_s0 rfl) rfl rfl (Nat.le_of_ble_eq_true rfl) rfl rfl (Nat.le_of_ble_eq_true rfl)) (sF_121 z15)
        · subst hB
          exact rg_callX (rg_s9 (n := 4) (as := [.ref r8, .int (0 : Int32), .int (a1 * (4 : Int32)), .int (10 : Int32)]) (ar := []) rfl (rg_s0 rfl) rfl rfl (Nat.le_of_ble_eq_true rfl) rfl rfl (Nat.le_of_ble_eq_true rfl)) (sF_123 z11)
      · refine rg_bf (t := 34) (pc' := 24) rfl rfl q7 ?_
        exact sB_54_24 f  _ _ h _ hB
-- 63: RouteHouse.refuseStrangePacket(I)V
def B_63_15 (f : Nat) (h : hp_T) : Option ev_O := (some (.inr 0, hp_thr h))
theorem sB_63_15 (f : Nat) (w0 : Value) (w1 : Value) (h : hp_T) (o : ev_O) (hB : B_63_15 f  h = some o) : rg 63 15 [w0, w1] [] h o := by
  unfold B_63_15 at hB
  cases hB
  exact rg_th rfl rfl (Nat.le_of_ble_eq_true rfl)
def F_63 (f : Nat) (a0 : Nat) (a1 : Int32) (h : hp_T) : Option ev_O := (db (ev_c .lt a1 0) (B_63_15 f   h) (dg (decide (hp_k h a0 = some (7, 0))) (dp (hp_p h a0 5) fun r3 => (dg (decide (hp_k h r3 = some (1, 0))) (db (ev_c .lt a1 (hp_z h r3 6)) (some (.inl none, h)) (B_63_15 f   h))))))
theorem sF_63 {f : Nat} {a0 : Nat} {a1 : Int32} {h : hp_T} {o : ev_O} (hB : F_63 f a0 a1 h = some o) : rm 63 [.ref a0, .int a1] h o := by
  unfold F_63 at hB
  refine rm_in (L := [.ref a0, .int a1]) (Nat.le_of_ble_eq_true rfl) rfl ?_
  refine rg_p rfl rfl ?_
  rcases db_e hB with ⟨q1, hB⟩ | ⟨q1, hB⟩
  · refine rg_bt (t := 15) (pc' := 4) rfl rfl q1 ?_
    exact sB_63_15 f  _ _ h _ hB
  · refine rg_bf (t := 15) (pc' := 4) rfl rfl q1 ?_
    refine rg_p rfl rfl ?_
    refine rg_p rfl rfl ?_
    obtain ⟨c2, hB⟩ := dg_e hB
    obtain ⟨r3, p4, hB⟩ := dp_e hB
    refine rg_gp rfl rfl rfl (of_decide_eq_true c2) p4 ?_
    obtain ⟨c5, hB⟩ := dg_e hB
    refine rg_gz rfl rfl rfl (of_decide_eq_true c5) ?_
    rcases db_e hB with ⟨q6, hB⟩ | ⟨q6, hB⟩
    · refine rg_bt (t := 25) (pc' := 15) rfl rfl q6 ?_
      cases hB
      exact rg_rv rfl rfl
    · refine rg_bf (t := 25) (pc' := 15) rfl rfl q6 ?_
      exact sB_63_15 f  _ _ h _ hB
-- 55: RouteHouse.copy(I)I
def F_55 (f : Nat) (a0 : Nat) (a1 : Int32) (h : hp_T) : Option ev_O := (dg (decide (hp_k h a0 = some (7, 0))) (dv (F_63 f a0 a1 h) fun h2 => (dg (decide (hp_k h2 a0 = some (7, 0))) (dp (hp_p h2 a0 2) fun r6 => (dp (hp_p h2 a0 5) fun r8 => (dg (decide (hp_k h2 r8 = some (1, 0))) (dp (hp_p h2 r8 2) fun r11 => (dg (aib 64 h2 r11 a1) (dg (decide (hp_k h2 r6 = some (2, 0))) (dl (wz h2 r6 1 (hp_z h2 r11 (Int32.toNatClampNeg a1))) fun h15 => (dg (decide (hp_k h15 a0 = some (7, 0))) (dp (hp_p h15 a0 5) fun r18 => (dg (decide (hp_k h15 r18 = some (1, 0))) (dp (hp_p h15 r18 0) fun r21 => (dp (hp_p h15 r18 1) fun r23 => (dg (aib 64 h15 r23 a1) (dp (hp_p h15 a0 2) fun r26 => (dg (decide (hp_k h15 r26 = some (2, 0))) (dp (hp_p h15 r26 0) fun r29 => (dg (acb 65 h15 r21 (hp_z h15 r23 (Int32.toNatClampNeg a1)) r29 (0 : Int32) (hp_z h15 r26 1)) (dl (wc h15 r21 (hp_z h15 r23 (Int32.toNatClampNeg a1)) r29 (0 : Int32) (hp_z h15 r26 1)) fun h32 => (dg (decide (hp_k h32 a0 = some (7, 0))) (dp (hp_p h32 a0 2) fun r35 => (dg (decide (hp_k h32 r35 = some (2, 0))) (some (.inl (some (.int (hp_z h32 r35 1))), h32))))))))))))))))))))))))))
theorem sF_55 {f : Nat} {a0 : Nat} {a1 : Int32} {h : hp_T} {o : ev_O} (hB : F_55 f a0 a1 h = some o) : rm 55 [.ref a0, .int a1] h o := by
  unfold F_55 at hB
  refine rm_in (L := [.ref a0, .int a1]) (Nat.le_of_ble_eq_true rfl) rfl ?_
  refine rg_p rfl rfl ?_
  refine rg_p rfl rfl ?_
  obtain ⟨c1, hB⟩ := dg_e hB
  rcases dv_e hB with ⟨h2, z3, hB⟩ | ⟨q4, h2, z3, hB⟩
  · refine rg_call (rg_v9 (n := 1) (b := a0) (as := [.ref a0, .int a1]) (ar := []) rfl rfl rfl (Nat.le_of_ble_eq_true rfl) rfl rfl (Nat.le_of_ble_eq_true rfl) (of_decide_eq_true c1)) (sF_63 z3) ?_
    refine rg_p rfl rfl ?_
    obtain ⟨c5, hB⟩ := dg_e hB
    obtain ⟨r6, p7, hB⟩ := dp_e hB
    refine rg_gp rfl rfl rfl (of_decide_eq_true c5) p7 ?_
    refine rg_p rfl rfl ?_
    obtain ⟨r8, p9, hB⟩ := dp_e hB
    refine rg_gp rfl rfl rfl (of_decide_eq_true c5) p9 ?_
    obtain ⟨c10, hB⟩ := dg_e hB
    obtain ⟨r11, p12, hB⟩ := dp_e hB
    refine rg_gp rfl rfl rfl (of_decide_eq_true c10) p12 ?_
    show rg 55 16 _ _ _ _
    refine rg_p rfl rfl ?_
    obtain ⟨c13, hB⟩ := dg_e hB
    refine rg_ia rfl (ai_of c13) ?_
    obtain ⟨c14, hB⟩ := dg_e hB
    obtain ⟨h15, e16, hB⟩ := dl_e hB
    refine rg_pi rfl rfl rfl (of_decide_eq_true c14) e16 ?_
    refine rg_p rfl rfl ?_
    obtain ⟨c17, hB⟩ := dg_e hB
    obtain ⟨r18, p19, hB⟩ := dp_e hB
    refine rg_gp rfl rfl rfl (of_decide_eq_true c17) p19 ?_
    obtain ⟨c20, hB⟩ := dg_e hB
    obtain ⟨r21, p22, hB⟩ := dp_e hB
    refine rg_gp rfl rfl rfl (of_decide_eq_true c20) p22 ?_
    show rg 55 28 _ _ _ _
    refine rg_p rfl rfl ?_
    refine rg_gp rfl rfl rfl (of_decide_eq_true c17) p19 ?_
    obtain ⟨r23, p24, hB⟩ := dp_e hB
    refine rg_gp rfl rfl rfl (of_decide_eq_true c20) p24 ?_
    refine rg_p rfl rfl ?_
    obtain ⟨c25, hB⟩ := dg_e hB
    refine rg_ia rfl (ai_of c25) ?_
    refine rg_p rfl rfl ?_
    show rg 55 38 _ _ _ _
    obtain ⟨r26, p27, hB⟩ := dp_e hB
    refine rg_gp rfl rfl rfl (of_decide_eq_true c17) p27 ?_
    obtain ⟨c28, hB⟩ := dg_e hB
    obtain ⟨r29, p30, hB⟩ := dp_e hB
    refine rg_gp rfl rfl rfl (of_decide_eq_true c28) p30 ?_
    refine rg_ic (v := (0 : Int32)) rfl (by decide) ?_
    refine rg_p rfl rfl ?_
    refine rg_gp rfl rfl rfl (of_decide_eq_true c17) p27 ?_
    refine rg_gz rfl rfl rfl (of_decide_eq_true c28) ?_
    show rg 55 52 _ _ _ _
    obtain ⟨c31, hB⟩ := dg_e hB
    obtain ⟨h32, e33, hB⟩ := dl_e hB
    refine rg_cp (t := 65) (by decide) rfl rfl (Nat.le_of_ble_eq_true rfl) (ac_of c31) e33 ?_
    refine rg_p rfl rfl ?_
    obtain ⟨c34, hB⟩ := dg_e hB
    obtain ⟨r35, p36, hB⟩ := dp_e hB
    refine rg_gp rfl rfl rfl (of_decide_eq_true c34) p36 ?_
    obtain ⟨c37, hB⟩ := dg_e hB
    refine rg_gz rfl rfl rfl (of_decide_eq_true c37) ?_
    cases hB
    exact rg_ri rfl rfl rfl
  · subst hB
    exact rg_callX (rg_v9 (n := 1) (b := a0) (as := [.ref a0, .int a1]) (ar := []) rfl rfl rfl (Nat.le_of_ble_eq_true rfl) rfl rfl (Nat.le_of_ble_eq_true rfl) (of_decide_eq_true c1)) (sF_63 z3)
-- 66: RouteHouse.isOwnAddress(I)Z
def B_66_8 (f : Nat) : Nat → Nat → Int32 → Int32 → hp_T → Option ev_O
  | 0, _, _, _, _ => none
  | g + 1, l0, l1, l2, h => (db (ev_c .ge l2 (8 : Int32)) (some (.inl (some (.int (0 : Int32))), h)) (dg (decide (hp_k h l0 = some (7, 0))) (dp (hp_p h l0 0) fun r3 => (dg (aib 103 h r3 l2) (dp (hp_p h r3 (Int32.toNatClampNeg l2)) fun r6 => (dg (decide (hp_k h r6 = some (3, 0))) (db (ev_c .ne (hp_z h r6 0) l1) ((B_66_8 f g) l0 l1 (l2 + (1 : Int32)) h) (some (.inl (some (.int (1 : Int32))), h)))))))))
theorem sB_66_8 (f : Nat) : ∀ (g : Nat) (l0 : Nat) (l1 : Int32) (l2 : Int32) (h : hp_T) (o : ev_O), B_66_8 f g l0 l1 l2 h = some o → rg 66 8 [.ref l0, .int l1, .int l2] [] h o := by
  intro g
  induction g with
  | zero =>
    intro l0 l1 l2  h o hB
    rw [B_66_8] at hB
    cases hB
  | succ g ih =>
    intro l0 l1 l2  h o hB
    rw [B_66_8] at hB
    refine rg_p rfl rfl ?_
    refine rg_bi (v := (8 : Int32)) rfl (by decide) ?_
    rcases db_e hB with ⟨q1, hB⟩ | ⟨q1, hB⟩
    · refine rg_bt (t := 35) (pc' := 14) rfl rfl q1 ?_
      refine rg_ic (v := (0 : Int32)) rfl (by decide) ?_
      cases hB
      exact rg_ri rfl rfl (dz_n dz_0)
    · refine rg_bf (t := 35) (pc' := 14) rfl rfl q1 ?_
      refine rg_p rfl rfl ?_
      obtain ⟨c2, hB⟩ := dg_e hB
      obtain ⟨r3, p4, hB⟩ := dp_e hB
      refine rg_gp rfl rfl rfl (of_decide_eq_true c2) p4 ?_
      refine rg_p rfl rfl ?_
      obtain ⟨c5, hB⟩ := dg_e hB
      obtain ⟨r6, p7, hB⟩ := dp_e hB
      refine rg_aa (t := 103) (by decide) rfl (ai_of c5) p7 ?_
      obtain ⟨c8, hB⟩ := dg_e hB
      refine rg_gz rfl rfl rfl (of_decide_eq_true c8) ?_
      show rg 66 23 _ _ _ _
      refine rg_p rfl rfl ?_
      rcases db_e hB with ⟨q9, hB⟩ | ⟨q9, hB⟩
      · refine rg_bt (t := 29) (pc' := 27) rfl rfl q9 ?_
        refine rg_p (L' := [.ref l0, .int l1, .int (l2 + (1 : Int32))]) rfl rfl ?_
        refine rg_p (pc' := 8) rfl rfl ?_
        exact ih _ _ _ h _ hB
      · refine rg_bf (t := 29) (pc' := 27) rfl rfl q9 ?_
        refine rg_ic (v := (1 : Int32)) rfl (by decide) ?_
        cases hB
        exact rg_ri rfl rfl (dz_n dz_1)
def F_66 (f : Nat) (a0 : Nat) (a1 : Int32) (h : hp_T) : Option ev_O := (db (ev_c .ne a1 0) (B_66_8 f  f a0 a1 (0 : Int32) h) (some (.inl (some (.int (0 : Int32))), h)))
theorem sF_66 {f : Nat} {a0 : Nat} {a1 : Int32} {h : hp_T} {o : ev_O} (hB : F_66 f a0 a1 h = some o) : rm 66 [.ref a0, .int a1] h o := by
  unfold F_66 at hB
  refine rm_in (L := [.ref a0, .int a1, .null]) (Nat.le_of_ble_eq_true rfl) rfl ?_
  refine rg_p rfl rfl ?_
  rcases db_e hB with ⟨q1, hB⟩ | ⟨q1, hB⟩
  · refine rg_bt (t := 6) (pc' := 4) rfl rfl q1 ?_
    refine rg_ic (v := (0 : Int32)) rfl (by decide) ?_
    refine rg_p (L' := [.ref a0, .int a1, .int (0 : Int32)]) rfl rfl ?_
    exact sB_66_8 f  f _ _ _ h _ hB
  · refine rg_bf (t := 6) (pc' := 4) rfl rfl q1 ?_
    refine rg_ic (v := (0 : Int32)) rfl (by decide) ?_
    cases hB
    exact rg_ri rfl rfl (dz_n dz_0)
-- 71: RouteHouse.sendReply(IIII)V
def F_71 (f : Nat) (a0 : Nat) (a1 : Int32) (a2 : Int32) (a3 : Int32) (a4 : Int32) (h : hp_T) : Option ev_O := (dg (decide (hp_k h a0 = some (7, 0))) (dp (hp_p h a0 4) fun r2 => (dg (decide (hp_k h r2 = some (2, 0))) (dp (hp_p h r2 0) fun r5 => (dv (F_122 f r5 (0 : Int32) ((1157627904 : Int32) ||| ((20 : Int32) + a1)) h) fun h7 => (dg (decide (hp_k h7 a0 = some (7, 0))) (dv (F_122 f r5 (4 : Int32) ((hp_z h7 a0 9) <<< ((16 : Int32) &&& 31)) h7) fun h11 => (dv (F_122 f r5 (8 : Int32) (1073807360 : Int32) h11) fun h14 => (dv (F_122 f r5 (12 : Int32) a3 h14) fun h17 => (dv (F_122 f r5 (16 : Int32) a4 h17) fun h20 => (di (F_123 f r5 (20 : Int32) a1 (22 : Int32) h20) fun v26 h23 => (dv (F_121 f r5 (22 : Int32) v26 h23) fun h27 => (dg (decide (hp_k h27 a0 = some (7, 0))) (dl (wz h27 a0 9 ((hp_z h27 a0 9) + (1 : Int32))) fun h31 => (dg (decide (hp_k h31 a0 = some (7, 0))) (dp (hp_p h31 a0 5) fun r34 => (dp (hp_p h31 a0 4) fun r36 => (dp (hp_p h31 a0 0) fun r38 => (dg (aib 103 h31 r38 a2) (dp (hp_p h31 r38 (Int32.toNatClampNeg a2)) fun r41 => (dg (decide (hp_k h31 r41 = some (3, 0))) (dg (decide (hp_k h31 r34 = some (1, 0))) (dv (F_4 f r34 r36 (hp_z h31 r41 1) a2 (0 : Int32) h31) fun h45 => (some (.inl none, h45)))))))))))))))))))))))))
theorem sF_71 {f : Nat} {a0 : Nat} {a1 : Int32} {a2 : Int32} {a3 : Int32} {a4 : Int32} {h : hp_T} {o : ev_O} (hB : F_71 f a0 a1 a2 a3 a4 h = some o) : rm 71 [.ref a0, .int a1, .int a2, .int a3, .int a4] h o := by
  unfold F_71 at hB
  refine rm_in (L := [.ref a0, .int a1, .int a2, .int a3, .int a4, .null, .null]) (Nat.le_of_ble_eq_true rfl) rfl ?_
  refine rg_p rfl rfl ?_
  obtain ⟨c1, hB⟩ := dg_e hB
  obtain ⟨r2, p3, hB⟩ := dp_e hB
  refine rg_gp rfl rfl rfl (of_decide_eq_true c1) p3 ?_
  obtain ⟨c4, hB⟩ := dg_e hB
  obtain ⟨r5, p6, hB⟩ := dp_e hB
  refine rg_gp rfl rfl rfl (of_decide_eq_true c4) p6 ?_
  refine rg_p (L' := [.ref a0, .int a1, .int a2, .int a3, .int a4, .ref r5, .null]) rfl rfl ?_
  refine rg_p rfl rfl ?_
  show rg 71 11 _ _ _ _
  refine rg_ic (v := (0 : Int32)) rfl (by decide) ?_
  refine rg_lw (v := (1157627904 : Int32)) rfl rfl ?_
  refine rg_bi (v := (20 : Int32)) rfl (by decide) ?_
  refine rg_p rfl rfl ?_
  refine rg_p rfl rfl ?_
  refine rg_p rfl rfl ?_
  show rg 71 20 _ _ _ _
  rcases dv_e hB with ⟨h7, z8, hB⟩ | ⟨q9, h7, z8, hB⟩
  · refine rg_call (rg_s9 (n := 3) (as := [.ref r5, .int (0 : Int32), .int ((1157627904 : Int32) ||| ((20 : Int32) + a1))]) (ar := []) rfl (rg_s0 rfl) rfl rfl (Nat.le_of_ble_eq_true rfl) rfl rfl (Nat.le_of_ble_eq_true rfl)) (sF_122 z8) ?_
    refine rg_p rfl rfl ?_
    refine rg_ic (v := (4 : Int32)) rfl (by decide) ?_
    refine rg_p rfl rfl ?_
    obtain ⟨c10, hB⟩ := dg_e hB
    refine rg_gz rfl rfl rfl (of_decide_eq_true c10) ?_
    refine rg_bi (v := (16 : Int32)) rfl (by decide) ?_
    show rg 71 32 _ _ _ _
    refine rg_p rfl rfl ?_
    rcases dv_e hB with ⟨h11, z12, hB⟩ | ⟨q13, h11, z12, hB⟩
    · refine rg_call (rg_s9 (n := 3) (as := [.ref r5, .int (4 : Int32), .int ((hp_z h7 a0 9) <<< ((16 : Int32) &&& 31))]) (ar := []) rfl (rg_s0 rfl) rfl rfl (Nat.le_of_ble_eq_true rfl) rfl rfl (Nat.le_of_ble_eq_true rfl)) (sF_122 z12) ?_
      refine rg_p rfl rfl ?_
      refine rg_bi (v := (8 : Int32)) rfl (by decide) ?_
      refine rg_lw (v := (1073807360 : Int32)) rfl rfl ?_
      rcases dv_e hB with ⟨h14, z15, hB⟩ | ⟨q16, h14, z15, hB⟩
      · refine rg_call (rg_s9 (n := 3) (as := [.ref r5, .int (8 : Int32), .int (1073807360 : Int32)]) (ar := []) rfl (rg_s0 rfl) rfl rfl (Nat.le_of_ble_eq_true rfl) rfl rfl (Nat.le_of_ble_eq_true rfl)) (sF_122 z15) ?_
        refine rg_p rfl rfl ?_
        refine rg_bi (v := (12 : Int32)) rfl (by decide) ?_
        refine rg_p rfl rfl ?_
        rcases dv_e hB with ⟨h17, z18, hB⟩ | ⟨q19, h17, z18, hB⟩
        · refine rg_call (rg_s9 (n := 3) (as := [.ref r5, .int (12 : Int32), .int a3]) (ar := []) rfl (rg_s0 rfl) rfl rfl (Nat.le_of_ble_eq_true rfl) rfl rfl (Nat.le_of_ble_eq_true rfl)) (sF_122 z18) ?_
          refine rg_p rfl rfl ?_
          refine rg_bi (v := (16 : Int32)) rfl (by decide) ?_
          refine rg_p rfl rfl ?_
          rcases dv_e hB with ⟨h20, z21, hB⟩ | ⟨q22, h20, z21, hB⟩
          · refine rg_call (rg_s9 (n := 3) (as := [.ref r5, .int (16 : Int32), .int a4]) (ar := []) rfl (rg_s0 rfl) rfl rfl (Nat.le_of_ble_eq_true rfl) rfl rfl (Nat.le_of_ble_eq_true rfl)) (sF_122 z21) ?_
            refine rg_bi (v := (22 : Int32)) rfl (by decide) ?_
            refine rg_p (L' := [.ref a0, .int a1, .int a2, .int a3, .int a4, .ref r5, .int (22 : Int32)]) rfl rfl ?_
            refine rg_p rfl rfl ?_
            refine rg_p rfl rfl ?_
            refine rg_p rfl rfl ?_
            show rg 71 73 _ _ _ _
            refine rg_bi (v := (20 : Int32)) rfl (by decide) ?_
            refine rg_p rfl rfl ?_
            refine rg_p rfl rfl ?_
            rcases di_e hB with ⟨v26, h23, z24, hB⟩ | ⟨q25, h23, z24, hB⟩
            · refine rg_call (rg_s9 (n := 4) (as := [.ref r5, .int (20 : Int32), .int a1, .int (22 : Int32)]) (ar := []) rfl (rg_s0 rfl) rfl rfl (Nat.le_of_ble_eq_true rfl) rfl rfl (Nat.le_of_ble_eq_true rfl)) (sF_123 z24) ?_
              rcases dv_e hB with ⟨h27, z28, hB⟩ | ⟨q29, h27, z28, hB⟩
              · refine rg_call (rg_s9 (n := 3) (as := [.ref r5, .int (22 : Int32), .int v26]) (ar := []) rfl (rg_s0 rfl) rfl rfl (Nat.le_of_ble_eq_true rfl) rfl rfl (Nat.le_of_ble_eq_true rfl)) (sF_121 z28) ?_
                refine rg_p rfl rfl ?_
                refine rg_p rfl rfl ?_
                obtain ⟨c30, hB⟩ := dg_e hB
                refine rg_gz rfl rfl rfl (of_decide_eq_true c30) ?_
                refine rg_ic (v := (1 : Int32)) rfl (by decide) ?_
                refine rg_p rfl rfl ?_
                show rg 71 91 _ _ _ _
                obtain ⟨h31, e32, hB⟩ := dl_e hB
                refine rg_pi rfl rfl rfl (of_decide_eq_true c30) e32 ?_
                refine rg_p rfl rfl ?_
                obtain ⟨c33, hB⟩ := dg_e hB
                obtain ⟨r34, p35, hB⟩ := dp_e hB
                refine rg_gp rfl rfl rfl (of_decide_eq_true c33) p35 ?_
                refine rg_p rfl rfl ?_
                obtain ⟨r36, p37, hB⟩ := dp_e hB
                refine rg_gp rfl rfl rfl (of_decide_eq_true c33) p37 ?_
                refine rg_p rfl rfl ?_
                show rg 71 103 _ _ _ _
                obtain ⟨r38, p39, hB⟩ := dp_e hB
                refine rg_gp rfl rfl rfl (of_decide_eq_true c33) p39 ?_
                refine rg_p rfl rfl ?_
                obtain ⟨c40, hB⟩ := dg_e hB
                obtain ⟨r41, p42, hB⟩ := dp_e hB
                refine rg_aa (t := 103) (by decide) rfl (ai_of c40) p42 ?_
                obtain ⟨c43, hB⟩ := dg_e hB
                refine rg_gz rfl rfl rfl (of_decide_eq_true c43) ?_
                refine rg_p rfl rfl ?_
                refine rg_ic (v := (0 : Int32)) rfl (by decide) ?_
                show rg 71 113 _ _ _ _
                obtain ⟨c44, hB⟩ := dg_e hB
                rcases dv_e hB with ⟨h45, z46, hB⟩ | ⟨q47, h45, z46, hB⟩
                · refine rg_call (rg_v9 (n := 4) (b := r34) (as := [.ref r34, .ref r36, .int (hp_z h31 r41 1), .int a2, .int (0 : Int32)]) (ar := []) rfl rfl rfl (Nat.le_of_ble_eq_true rfl) rfl rfl (Nat.le_of_ble_eq_true rfl) (of_decide_eq_true c44)) (sF_4 z46) ?_
                  cases hB
                  exact rg_rv rfl rfl
                · subst hB
                  exact rg_callX (rg_v9 (n := 4) (b := r34) (as := [.ref r34, .ref r36, .int (hp_z h31 r41 1), .int a2, .int (0 : Int32)]) (ar := []) rfl rfl rfl (Nat.le_of_ble_eq_true rfl) rfl rfl (Nat.le_of_ble_eq_true rfl) (of_decide_eq_true c44)) (sF_4 z46)
              · subst hB
                exact rg_callX (rg_s9 (n := 3) (as := [.ref r5, .int (22 : Int32), .int v26]) (ar := []) rfl (rg_s0 rfl) rfl rfl (Nat.le_of_ble_eq_true rfl) rfl rfl (Nat.le_of_ble_eq_true rfl)) (sF_121 z28)
            · subst hB
              exact rg_callX (rg_s9 (n := 4) (as := [.ref r5, .int (20 : Int32), .int a1, .int (22 : Int32)]) (ar := []) rfl (rg_s0 rfl) rfl rfl (Nat.le_of_ble_eq_true rfl) rfl rfl (Nat.le_of_ble_eq_true rfl)) (sF_123 z24)
          · subst hB
            exact rg_callX (rg_s9 (n := 3) (as := [.ref r5, .int (16 : Int32), .int a4]) (ar := []) rfl (rg_s0 rfl) rfl rfl (Nat.le_of_ble_eq_true rfl) rfl rfl (Nat.le_of_ble_eq_true rfl)) (sF_122 z21)
        · subst hB
          exact rg_callX (rg_s9 (n := 3) (as := [.ref r5, .int (12 : Int32), .int a3]) (ar := []) rfl (rg_s0 rfl) rfl rfl (Nat.le_of_ble_eq_true rfl) rfl rfl (Nat.le_of_ble_eq_true rfl)) (sF_122 z18)
      · subst hB
        exact rg_callX (rg_s9 (n := 3) (as := [.ref r5, .int (8 : Int32), .int (1073807360 : Int32)]) (ar := []) rfl (rg_s0 rfl) rfl rfl (Nat.le_of_ble_eq_true rfl) rfl rfl (Nat.le_of_ble_eq_true rfl)) (sF_122 z15)
    · subst hB
      exact rg_callX (rg_s9 (n := 3) (as := [.ref r5, .int (4 : Int32), .int ((hp_z h7 a0 9) <<< ((16 : Int32) &&& 31))]) (ar := []) rfl (rg_s0 rfl) rfl rfl (Nat.le_of_ble_eq_true rfl) rfl rfl (Nat.le_of_ble_eq_true rfl)) (sF_122 z12)
  · subst hB
    exact rg_callX (rg_s9 (n := 3) (as := [.ref r5, .int (0 : Int32), .int ((1157627904 : Int32) ||| ((20 : Int32) + a1))]) (ar := []) rfl (rg_s0 rfl) rfl rfl (Nat.le_of_ble_eq_true rfl) rfl rfl (Nat.le_of_ble_eq_true rfl)) (sF_122 z8)
