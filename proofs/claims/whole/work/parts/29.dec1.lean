-- 0: RouteHouse$Delivery.<init>()V
def F_0 (f : Nat) (a0 : Nat) (h : hp_T) : Option ev_O := (dl (hp_new h 65 (Int32.toNatClampNeg (4000 : Int32)) (Int32.toNatClampNeg (4000 : Int32))) fun h1 => (dg (decide (hp_k h1 a0 = some (0, 0))) (dl (hp_pw h1 a0 0 (some h.1.length)) fun h4 => (some (.inl none, h4)))))
theorem sF_0 {f : Nat} {a0 : Nat} {h : hp_T} {o : ev_O} (hB : F_0 f a0 h = some o) : rm 0 [.ref a0] h o := by
  unfold F_0 at hB
  refine rm_in (L := [.ref a0]) (Nat.le_of_ble_eq_true rfl) rfl ?_
  refine rg_p rfl rfl ?_
  refine rg_oi rfl rfl (Nat.le_of_ble_eq_true rfl) ?_
  refine rg_p rfl rfl ?_
  refine rg_si (v := (4000 : Int32)) rfl (by decide) ?_
  obtain ⟨h1, e2, hB⟩ := dl_e hB
  refine rg_na (t := 65) rfl (by decide) rfl ⟨by decide, by decide⟩ e2 ?_
  show rg 0 10 _ _ _ _
  obtain ⟨c3, hB⟩ := dg_e hB
  obtain ⟨h4, e5, hB⟩ := dl_e hB
  refine rg_pp rfl rfl rfl (of_decide_eq_true c3) e5 ?_
  cases hB
  exact rg_rv rfl rfl
-- 8: RouteHouse$Packet.headerLength()I
def F_8 (f : Nat) (a0 : Nat) (h : hp_T) : Option ev_O := (dg (decide (hp_k h a0 = some (2, 0))) (dp (hp_p h a0 0) fun r2 => (dg (aib 65 h r2 (0 : Int32)) (some (.inl (some (.int (((hp_z h r2 (Int32.toNatClampNeg (0 : Int32))) &&& (15 : Int32)) * (4 : Int32)))), h)))))
theorem sF_8 {f : Nat} {a0 : Nat} {h : hp_T} {o : ev_O} (hB : F_8 f a0 h = some o) : rm 8 [.ref a0] h o := by
  unfold F_8 at hB
  refine rm_in (L := [.ref a0]) (Nat.le_of_ble_eq_true rfl) rfl ?_
  refine rg_p rfl rfl ?_
  obtain ⟨c1, hB⟩ := dg_e hB
  obtain ⟨r2, p3, hB⟩ := dp_e hB
  refine rg_gp rfl rfl rfl (of_decide_eq_true c1) p3 ?_
  refine rg_ic (v := (0 : Int32)) rfl (by decide) ?_
  obtain ⟨c4, hB⟩ := dg_e hB
  refine rg_ba (t := 65) (by decide) rfl (ai_of c4) ?_
  refine rg_bi (v := (15 : Int32)) rfl (by decide) ?_
  show rg 8 8 _ _ _ _
  refine rg_p rfl rfl ?_
  refine rg_ic (v := (4 : Int32)) rfl (by decide) ?_
  refine rg_p rfl rfl ?_
  cases hB
  exact rg_ri rfl rfl rfl
-- 119: RouteHouse$Wire.two([BI)I
def F_119 (f : Nat) (a0 : Nat) (a1 : Int32) (h : hp_T) : Option ev_O := (dg (aib 65 h a0 a1) (dg (aib 65 h a0 (a1 + (1 : Int32))) (some (.inl (some (.int ((((hp_z h a0 (Int32.toNatClampNeg a1)) &&& (255 : Int32)) <<< ((8 : Int32) &&& 31)) ||| ((hp_z h a0 (Int32.toNatClampNeg (a1 + (1 : Int32)))) &&& (255 : Int32))))), h))))
theorem sF_119 {f : Nat} {a0 : Nat} {a1 : Int32} {h : hp_T} {o : ev_O} (hB : F_119 f a0 a1 h = some o) : rm 119 [.ref a0, .int a1] h o := by
  unfold F_119 at hB
  refine rm_in (L := [.ref a0, .int a1]) (Nat.le_of_ble_eq_true rfl) rfl ?_
  refine rg_p rfl rfl ?_
  refine rg_p rfl rfl ?_
  obtain ⟨c1, hB⟩ := dg_e hB
  refine rg_ba (t := 65) (by decide) rfl (ai_of c1) ?_
  refine rg_si (v := (255 : Int32)) rfl (by decide) ?_
  refine rg_p rfl rfl ?_
  show rg 119 7 _ _ _ _
  refine rg_bi (v := (8 : Int32)) rfl (by decide) ?_
  refine rg_p rfl rfl ?_
  refine rg_p rfl rfl ?_
  refine rg_p rfl rfl ?_
  refine rg_ic (v := (1 : Int32)) rfl (by decide) ?_
  refine rg_p rfl rfl ?_
  show rg 119 14 _ _ _ _
  obtain ⟨c2, hB⟩ := dg_e hB
  refine rg_ba (t := 65) (by decide) rfl (ai_of c2) ?_
  refine rg_si (v := (255 : Int32)) rfl (by decide) ?_
  refine rg_p rfl rfl ?_
  refine rg_p rfl rfl ?_
  cases hB
  exact rg_ri rfl rfl rfl
-- 10: RouteHouse$Packet.dataLength()I
def F_10 (f : Nat) (a0 : Nat) (h : hp_T) : Option ev_O := (dg (decide (hp_k h a0 = some (2, 0))) (dp (hp_p h a0 0) fun r2 => (di (F_119 f r2 (2 : Int32) h) fun v7 h4 => (dg (decide (hp_k h4 a0 = some (2, 0))) (dp (hp_p h4 a0 0) fun r9 => (dg (aib 65 h4 r9 (0 : Int32)) (some (.inl (some (.int (v7 - (((hp_z h4 r9 (Int32.toNatClampNeg (0 : Int32))) &&& (15 : Int32)) * (4 : Int32))))), h4))))))))
theorem sF_10 {f : Nat} {a0 : Nat} {h : hp_T} {o : ev_O} (hB : F_10 f a0 h = some o) : rm 10 [.ref a0] h o := by
  unfold F_10 at hB
  refine rm_in (L := [.ref a0]) (Nat.le_of_ble_eq_true rfl) rfl ?_
  refine rg_p rfl rfl ?_
  obtain ⟨c1, hB⟩ := dg_e hB
  obtain ⟨r2, p3, hB⟩ := dp_e hB
  refine rg_gp rfl rfl rfl (of_decide_eq_true c1) p3 ?_
  refine rg_ic (v := (2 : Int32)) rfl (by decide) ?_
  rcases di_e hB with ⟨v7, h4, z5, hB⟩ | ⟨q6, h4, z5, hB⟩
  · refine rg_call (rg_s9 (n := 2) (as := [.ref r2, .int (2 : Int32)]) (ar := []) rfl (rg_s0 rfl) rfl rfl (Nat.le_of_ble_eq_true rfl) rfl rfl (Nat.le_of_ble_eq_true rfl)) (sF_119 z5) ?_
    refine rg_p rfl rfl ?_
    obtain ⟨c8, hB⟩ := dg_e hB
    obtain ⟨r9, p10, hB⟩ := dp_e hB
    refine rg_gp rfl rfl rfl (of_decide_eq_true c8) p10 ?_
    refine rg_ic (v := (0 : Int32)) rfl (by decide) ?_
    obtain ⟨c11, hB⟩ := dg_e hB
    refine rg_ba (t := 65) (by decide) rfl (ai_of c11) ?_
    refine rg_bi (v := (15 : Int32)) rfl (by decide) ?_
    show rg 10 16 _ _ _ _
    refine rg_p rfl rfl ?_
    refine rg_ic (v := (4 : Int32)) rfl (by decide) ?_
    refine rg_p rfl rfl ?_
    refine rg_p rfl rfl ?_
    cases hB
    exact rg_ri rfl rfl rfl
  · subst hB
    exact rg_callX (rg_s9 (n := 2) (as := [.ref r2, .int (2 : Int32)]) (ar := []) rfl (rg_s0 rfl) rfl rfl (Nat.le_of_ble_eq_true rfl) rfl rfl (Nat.le_of_ble_eq_true rfl)) (sF_119 z5)
-- 120: RouteHouse$Wire.four([BI)I
def F_120 (f : Nat) (a0 : Nat) (a1 : Int32) (h : hp_T) : Option ev_O := (dg (aib 65 h a0 a1) (dg (aib 65 h a0 (a1 + (1 : Int32))) (dg (aib 65 h a0 (a1 + (2 : Int32))) (dg (aib 65 h a0 (a1 + (3 : Int32))) (some (.inl (some (.int ((((((hp_z h a0 (Int32.toNatClampNeg a1)) &&& (255 : Int32)) <<< ((24 : Int32) &&& 31)) ||| (((hp_z h a0 (Int32.toNatClampNeg (a1 + (1 : Int32)))) &&& (255 : Int32)) <<< ((16 : Int32) &&& 31))) ||| (((hp_z h a0 (Int32.toNatClampNeg (a1 + (2 : Int32)))) &&& (255 : Int32)) <<< ((8 : Int32) &&& 31))) ||| ((hp_z h a0 (Int32.toNatClampNeg (a1 + (3 : Int32)))) &&& (255 : Int32))))), h))))))
theorem sF_120 {f : Nat} {a0 : Nat} {a1 : Int32} {h : hp_T} {o : ev_O} (hB : F_120 f a0 a1 h = some o) : rm 120 [.ref a0, .int a1] h o := by
  unfold F_120 at hB
  refine rm_in (L := [.ref a0, .int a1]) (Nat.le_of_ble_eq_true rfl) rfl ?_
  refine rg_p rfl rfl ?_
  refine rg_p rfl rfl ?_
  obtain ⟨c1, hB⟩ := dg_e hB
  refine rg_ba (t := 65) (by decide) rfl (ai_of c1) ?_
  refine rg_si (v := (255 : Int32)) rfl (by decide) ?_
  refine rg_p rfl rfl ?_
  show rg 120 7 _ _ _ _
  refine rg_bi (v := (24 : Int32)) rfl (by decide) ?_
  refine rg_p rfl rfl ?_
  refine rg_p rfl rfl ?_
  refine rg_p rfl rfl ?_
  refine rg_ic (v := (1 : Int32)) rfl (by decide) ?_
  refine rg_p rfl rfl ?_
  show rg 120 14 _ _ _ _
  obtain ⟨c2, hB⟩ := dg_e hB
  refine rg_ba (t := 65) (by decide) rfl (ai_of c2) ?_
  refine rg_si (v := (255 : Int32)) rfl (by decide) ?_
  refine rg_p rfl rfl ?_
  refine rg_bi (v := (16 : Int32)) rfl (by decide) ?_
  refine rg_p rfl rfl ?_
  refine rg_p rfl rfl ?_
  show rg 120 23 _ _ _ _
  refine rg_p rfl rfl ?_
  refine rg_p rfl rfl ?_
  refine rg_ic (v := (2 : Int32)) rfl (by decide) ?_
  refine rg_p rfl rfl ?_
  obtain ⟨c3, hB⟩ := dg_e hB
  refine rg_ba (t := 65) (by decide) rfl (ai_of c3) ?_
  refine rg_si (v := (255 : Int32)) rfl (by decide) ?_
  show rg 120 31 _ _ _ _
  refine rg_p rfl rfl ?_
  refine rg_bi (v := (8 : Int32)) rfl (by decide) ?_
  refine rg_p rfl rfl ?_
  refine rg_p rfl rfl ?_
  refine rg_p rfl rfl ?_
  refine rg_p rfl rfl ?_
  show rg 120 38 _ _ _ _
  refine rg_ic (v := (3 : Int32)) rfl (by decide) ?_
  refine rg_p rfl rfl ?_
  obtain ⟨c4, hB⟩ := dg_e hB
  refine rg_ba (t := 65) (by decide) rfl (ai_of c4) ?_
  refine rg_si (v := (255 : Int32)) rfl (by decide) ?_
  refine rg_p rfl rfl ?_
  refine rg_p rfl rfl ?_
  show rg 120 46 _ _ _ _
  cases hB
  exact rg_ri rfl rfl rfl
-- 18: RouteHouse$Packet.source()I
def F_18 (f : Nat) (a0 : Nat) (h : hp_T) : Option ev_O := (dg (decide (hp_k h a0 = some (2, 0))) (dp (hp_p h a0 0) fun r2 => (di (F_120 f r2 (12 : Int32) h) fun v7 h4 => (some (.inl (some (.int v7)), h4)))))
theorem sF_18 {f : Nat} {a0 : Nat} {h : hp_T} {o : ev_O} (hB : F_18 f a0 h = some o) : rm 18 [.ref a0] h o := by
  unfold F_18 at hB
  refine rm_in (L := [.ref a0]) (Nat.le_of_ble_eq_true rfl) rfl ?_
  refine rg_p rfl rfl ?_
  obtain ⟨c1, hB⟩ := dg_e hB
  obtain ⟨r2, p3, hB⟩ := dp_e hB
  refine rg_gp rfl rfl rfl (of_decide_eq_true c1) p3 ?_
  refine rg_bi (v := (12 : Int32)) rfl (by decide) ?_
  rcases di_e hB with ⟨v7, h4, z5, hB⟩ | ⟨q6, h4, z5, hB⟩
  · refine rg_call (rg_s9 (n := 2) (as := [.ref r2, .int (12 : Int32)]) (ar := []) rfl (rg_s0 rfl) rfl rfl (Nat.le_of_ble_eq_true rfl) rfl rfl (Nat.le_of_ble_eq_true rfl)) (sF_120 z5) ?_
    cases hB
    exact rg_ri rfl rfl rfl
  · subst hB
    exact rg_callX (rg_s9 (n := 2) (as := [.ref r2, .int (12 : Int32)]) (ar := []) rfl (rg_s0 rfl) rfl rfl (Nat.le_of_ble_eq_true rfl) rfl rfl (Nat.le_of_ble_eq_true rfl)) (sF_120 z5)
-- 19: RouteHouse$Packet.destination()I
def F_19 (f : Nat) (a0 : Nat) (h : hp_T) : Option ev_O := (dg (decide (hp_k h a0 = some (2, 0))) (dp (hp_p h a0 0) fun r2 => (di (F_120 f r2 (16 : Int32) h) fun v7 h4 => (some (.inl (some (.int v7)), h4)))))
theorem sF_19 {f : Nat} {a0 : Nat} {h : hp_T} {o : ev_O} (hB : F_19 f a0 h = some o) : rm 19 [.ref a0] h o := by
  unfold F_19 at hB
  refine rm_in (L := [.ref a0]) (Nat.le_of_ble_eq_true rfl) rfl ?_
  refine rg_p rfl rfl ?_
  obtain ⟨c1, hB⟩ := dg_e hB
  obtain ⟨r2, p3, hB⟩ := dp_e hB
  refine rg_gp rfl rfl rfl (of_decide_eq_true c1) p3 ?_
  refine rg_bi (v := (16 : Int32)) rfl (by decide) ?_
  rcases di_e hB with ⟨v7, h4, z5, hB⟩ | ⟨q6, h4, z5, hB⟩
  · refine rg_call (rg_s9 (n := 2) (as := [.ref r2, .int (16 : Int32)]) (ar := []) rfl (rg_s0 rfl) rfl rfl (Nat.le_of_ble_eq_true rfl) rfl rfl (Nat.le_of_ble_eq_true rfl)) (sF_120 z5) ?_
    cases hB
    exact rg_ri rfl rfl rfl
  · subst hB
    exact rg_callX (rg_s9 (n := 2) (as := [.ref r2, .int (16 : Int32)]) (ar := []) rfl (rg_s0 rfl) rfl rfl (Nat.le_of_ble_eq_true rfl) rfl rfl (Nat.le_of_ble_eq_true rfl)) (sF_120 z5)
-- 1: RouteHouse$Delivery.take(LRouteHouse$Packet;)V
def F_1 (f : Nat) (a0 : Nat) (a1 : Nat) (h : hp_T) : Option ev_O := (dg (decide (hp_k h a0 = some (0, 0))) (dl (wz h a0 1 ((hp_z h a0 1) + (1 : Int32))) fun h2 => (dg (decide (hp_k h2 a1 = some (2, 0))) (di (F_18 f a1 h2) fun v8 h5 => (dg (decide (hp_k h5 a0 = some (0, 0))) (dl (wz h5 a0 2 v8) fun h10 => (dg (decide (hp_k h10 a1 = some (2, 0))) (di (F_19 f a1 h10) fun v16 h13 => (dg (decide (hp_k h13 a0 = some (0, 0))) (dl (wz h13 a0 3 v16) fun h18 => (dg (decide (hp_k h18 a1 = some (2, 0))) (di (F_10 f a1 h18) fun v24 h21 => (dg (decide (hp_k h21 a0 = some (0, 0))) (dl (wz h21 a0 4 v24) fun h26 => (dg (decide (hp_k h26 a1 = some (2, 0))) (dp (hp_p h26 a1 0) fun r29 => (di (F_8 f a1 h26) fun v34 h31 => (dg (decide (hp_k h31 a0 = some (0, 0))) (dp (hp_p h31 a0 0) fun r36 => (dg (acb 65 h31 r29 v34 r36 (0 : Int32) (hp_z h31 a0 4)) (dl (wc h31 r29 v34 r36 (0 : Int32) (hp_z h31 a0 4)) fun h39 => (some (.inl none, h39)))))))))))))))))))))))
theorem sF_1 {f : Nat} {a0 : Nat} {a1 : Nat} {h : hp_T} {o : ev_O} (hB : F_1 f a0 a1 h = some o) : rm 1 [.ref a0, .ref a1] h o := by
  unfold F_1 at hB
  refine rm_in (L := [.ref a0, .ref a1]) (Nat.le_of_ble_eq_true rfl) rfl ?_
  refine rg_p rfl rfl ?_
  refine rg_p rfl rfl ?_
  obtain ⟨c1, hB⟩ := dg_e hB
  refine rg_gz rfl rfl rfl (of_decide_eq_true c1) ?_
  refine rg_ic (v := (1 : Int32)) rfl (by decide) ?_
  refine rg_p rfl rfl ?_
  show rg 1 7 _ _ _ _
  obtain ⟨h2, e3, hB⟩ := dl_e hB
  refine rg_pi rfl rfl rfl (of_decide_eq_true c1) e3 ?_
  refine rg_p rfl rfl ?_
  refine rg_p rfl rfl ?_
  obtain ⟨c4, hB⟩ := dg_e hB
  rcases di_e hB with ⟨v8, h5, z6, hB⟩ | ⟨q7, h5, z6, hB⟩
  · refine rg_call (rg_v9 (n := 0) (b := a1) (as := [.ref a1]) (ar := []) rfl rfl rfl (Nat.le_of_ble_eq_true rfl) rfl rfl (Nat.le_of_ble_eq_true rfl) (of_decide_eq_true c4)) (sF_18 z6) ?_
    obtain ⟨c9, hB⟩ := dg_e hB
    obtain ⟨h10, e11, hB⟩ := dl_e hB
    refine rg_pi rfl rfl rfl (of_decide_eq_true c9) e11 ?_
    refine rg_p rfl rfl ?_
    refine rg_p rfl rfl ?_
    obtain ⟨c12, hB⟩ := dg_e hB
    rcases di_e hB with ⟨v16, h13, z14, hB⟩ | ⟨q15, h13, z14, hB⟩
    · refine rg_call (rg_v9 (n := 0) (b := a1) (as := [.ref a1]) (ar := []) rfl rfl rfl (Nat.le_of_ble_eq_true rfl) rfl rfl (Nat.le_of_ble_eq_true rfl) (of_decide_eq_true c12)) (sF_19 z14) ?_
      obtain ⟨c17, hB⟩ := dg_e hB
      obtain ⟨h18, e19, hB⟩ := dl_e hB
      refine rg_pi rfl rfl rfl (of_decide_eq_true c17) e19 ?_
      refine rg_p rfl rfl ?_
      refine rg_p rfl rfl ?_
      obtain ⟨c20, hB⟩ := dg_e hB
      rcases di_e hB with ⟨v24, h21, z22, hB⟩ | ⟨q23, h21, z22, hB⟩
      · refine rg_call (rg_v9 (n := 0) (b := a1) (as := [.ref a1]) (ar := []) rfl rfl rfl (Nat.le_of_ble_eq_true rfl) rfl rfl (Nat.le_of_ble_eq_true rfl) (of_decide_eq_true c20)) (sF_10 z22) ?_
        obtain ⟨c25, hB⟩ := dg_e hB
        obtain ⟨h26, e27, hB⟩ := dl_e hB
        refine rg_pi rfl rfl rfl (of_decide_eq_true c25) e27 ?_
        refine rg_p rfl rfl ?_
        obtain ⟨c28, hB⟩ := dg_e hB
        obtain ⟨r29, p30, hB⟩ := dp_e hB
        refine rg_gp rfl rfl rfl (of_decide_eq_true c28) p30 ?_
        refine rg_p rfl rfl ?_
        rcases di_e hB with ⟨v34, h31, z32, hB⟩ | ⟨q33, h31, z32, hB⟩
        · refine rg_call (rg_v9 (n := 0) (b := a1) (as := [.ref a1]) (ar := []) rfl rfl rfl (Nat.le_of_ble_eq_true rfl) rfl rfl (Nat.le_of_ble_eq_true rfl) (of_decide_eq_true c28)) (sF_8 z32) ?_
          refine rg_p rfl rfl ?_
          obtain ⟨c35, hB⟩ := dg_e hB
          obtain ⟨r36, p37, hB⟩ := dp_e hB
          refine rg_gp rfl rfl rfl (of_decide_eq_true c35) p37 ?_
          refine rg_ic (v := (0 : Int32)) rfl (by decide) ?_
          refine rg_p rfl rfl ?_
          refine rg_gz rfl rfl rfl (of_decide_eq_true c35) ?_
          show rg 1 51 _ _ _ _
          obtain ⟨c38, hB⟩ := dg_e hB
          obtain ⟨h39, e40, hB⟩ := dl_e hB
          refine rg_cp (t := 65) (by decide) rfl rfl (Nat.le_of_ble_eq_true rfl) (ac_of c38) e40 ?_
          cases hB
          exact rg_rv rfl rfl
        · subst hB
          exact rg_callX (rg_v9 (n := 0) (b := a1) (as := [.ref a1]) (ar := []) rfl rfl rfl (Nat.le_of_ble_eq_true rfl) rfl rfl (Nat.le_of_ble_eq_true rfl) (of_decide_eq_true c28)) (sF_8 z32)
      · subst hB
        exact rg_callX (rg_v9 (n := 0) (b := a1) (as := [.ref a1]) (ar := []) rfl rfl rfl (Nat.le_of_ble_eq_true rfl) rfl rfl (Nat.le_of_ble_eq_true rfl) (of_decide_eq_true c20)) (sF_10 z22)
    · subst hB
      exact rg_callX (rg_v9 (n := 0) (b := a1) (as := [.ref a1]) (ar := []) rfl rfl rfl (Nat.le_of_ble_eq_true rfl) rfl rfl (Nat.le_of_ble_eq_true rfl) (of_decide_eq_true c12)) (sF_19 z14)
  · subst hB
    exact rg_callX (rg_v9 (n := 0) (b := a1) (as := [.ref a1]) (ar := []) rfl rfl rfl (Nat.le_of_ble_eq_true rfl) rfl rfl (Nat.le_of_ble_eq_true rfl) (of_decide_eq_true c4)) (sF_18 z6)
-- 2: RouteHouse$Outbox.<init>()V
def F_2 (f : Nat) (a0 : Nat) (h : hp_T) : Option ev_O := (dl (hp_new h 65 (Int32.toNatClampNeg (5000 : Int32)) (Int32.toNatClampNeg (5000 : Int32))) fun h1 => (dg (decide (hp_k h1 a0 = some (1, 0))) (dl (hp_pw h1 a0 0 (some h.1.length)) fun h4 => (dl (hp_new h4 64 (Int32.toNatClampNeg (50 : Int32)) (Int32.toNatClampNeg (50 : Int32))) fun h6 => (dg (decide (hp_k h6 a0 = some (1, 0))) (dl (hp_pw h6 a0 1 (some h4.1.length)) fun h9 => (dl (hp_new h9 64 (Int32.toNatClampNeg (50 : Int32)) (Int32.toNatClampNeg (50 : Int32))) fun h11 => (dg (decide (hp_k h11 a0 = some (1, 0))) (dl (hp_pw h11 a0 2 (some h9.1.length)) fun h14 => (dl (hp_new h14 64 (Int32.toNatClampNeg (50 : Int32)) (Int32.toNatClampNeg (50 : Int32))) fun h16 => (dg (decide (hp_k h16 a0 = some (1, 0))) (dl (hp_pw h16 a0 3 (some h14.1.length)) fun h19 => (dl (hp_new h19 64 (Int32.toNatClampNeg (50 : Int32)) (Int32.toNatClampNeg (50 : Int32))) fun h21 => (dg (decide (hp_k h21 a0 = some (1, 0))) (dl (hp_pw h21 a0 4 (some h19.1.length)) fun h24 => (dl (hp_new h24 65 (Int32.toNatClampNeg (60 : Int32)) (Int32.toNatClampNeg (60 : Int32))) fun h26 => (dg (decide (hp_k h26 a0 = some (1, 0))) (dl (hp_pw h26 a0 5 (some h24.1.length)) fun h29 => (some (.inl none, h29))))))))))))))))))))
theorem sF_2 {f : Nat} {a0 : Nat} {h : hp_T} {o : ev_O} (hB : F_2 f a0 h = some o) : rm 2 [.ref a0] h o := by
  unfold F_2 at hB
  refine rm_in (L := [.ref a0]) (Nat.le_of_ble_eq_true rfl) rfl ?_
  refine rg_p rfl rfl ?_
  refine rg_oi rfl rfl (Nat.le_of_ble_eq_true rfl) ?_
  refine rg_p rfl rfl ?_
  refine rg_si (v := (5000 : Int32)) rfl (by decide) ?_
  obtain ⟨h1, e2, hB⟩ := dl_e hB
  refine rg_na (t := 65) rfl (by decide) rfl ⟨by decide, by decide⟩ e2 ?_
  show rg 2 10 _ _ _ _
  obtain ⟨c3, hB⟩ := dg_e hB
  obtain ⟨h4, e5, hB⟩ := dl_e hB
  refine rg_pp rfl rfl rfl (of_decide_eq_true c3) e5 ?_
  refine rg_p rfl rfl ?_
  refine rg_bi (v := (50 : Int32)) rfl (by decide) ?_
  obtain ⟨h6, e7, hB⟩ := dl_e hB
  refine rg_na (t := 64) rfl (by decide) rfl ⟨by decide, by decide⟩ e7 ?_
  obtain ⟨c8, hB⟩ := dg_e hB
  obtain ⟨h9, e10, hB⟩ := dl_e hB
  refine rg_pp rfl rfl rfl (of_decide_eq_true c8) e10 ?_
  refine rg_p rfl rfl ?_
  show rg 2 22 _ _ _ _
  refine rg_bi (v := (50 : Int32)) rfl (by decide) ?_
  obtain ⟨h11, e12, hB⟩ := dl_e hB
  refine rg_na (t := 64) rfl (by decide) rfl ⟨by decide, by decide⟩ e12 ?_
  obtain ⟨c13, hB⟩ := dg_e hB
  obtain ⟨h14, e15, hB⟩ := dl_e hB
  refine rg_pp rfl rfl rfl (of_decide_eq_true c13) e15 ?_
  refine rg_p rfl rfl ?_
  refine rg_bi (v := (50 : Int32)) rfl (by decide) ?_
  obtain ⟨h16, e17, hB⟩ := dl_e hB
  refine rg_na (t := 64) rfl (by decide) rfl ⟨by decide, by decide⟩ e17 ?_
  show rg 2 34 _ _ _ _
  obtain ⟨c18, hB⟩ := dg_e hB
  obtain ⟨h19, e20, hB⟩ := dl_e hB
  refine rg_pp rfl rfl rfl (of_decide_eq_true c18) e20 ?_
  refine rg_p rfl rfl ?_
  refine rg_bi (v := (50 : Int32)) rfl (by decide) ?_
  obtain ⟨h21, e22, hB⟩ := dl_e hB
  refine rg_na (t := 64) rfl (by decide) rfl ⟨by decide, by decide⟩ e22 ?_
  obtain ⟨c23, hB⟩ := dg_e hB
  obtain ⟨h24, e25, hB⟩ := dl_e hB
  refine rg_pp rfl rfl rfl (of_decide_eq_true c23) e25 ?_
  refine rg_p rfl rfl ?_
  show rg 2 46 _ _ _ _
  refine rg_bi (v := (60 : Int32)) rfl (by decide) ?_
  obtain ⟨h26, e27, hB⟩ := dl_e hB
  refine rg_na (t := 65) rfl (by decide) rfl ⟨by decide, by decide⟩ e27 ?_
  obtain ⟨c28, hB⟩ := dg_e hB
  obtain ⟨h29, e30, hB⟩ := dl_e hB
  refine rg_pp rfl rfl rfl (of_decide_eq_true c28) e30 ?_
  cases hB
  exact rg_rv rfl rfl
-- 3: RouteHouse$Outbox.empty()V
def F_3 (f : Nat) (a0 : Nat) (h : hp_T) : Option ev_O := (dg (decide (hp_k h a0 = some (1, 0))) (dl (wz h a0 6 (0 : Int32)) fun h2 => (dg (decide (hp_k h2 a0 = some (1, 0))) (dl (wz h2 a0 7 (0 : Int32)) fun h5 => (some (.inl none, h5))))))
theorem sF_3 {f : Nat} {a0 : Nat} {h : hp_T} {o : ev_O} (hB : F_3 f a0 h = some o) : rm 3 [.ref a0] h o := by
  unfold F_3 at hB
  refine rm_in (L := [.ref a0]) (Nat.le_of_ble_eq_true rfl) rfl ?_
  refine rg_p rfl rfl ?_
  refine rg_ic (v := (0 : Int32)) rfl (by decide) ?_
  obtain ⟨c1, hB⟩ := dg_e hB
  obtain ⟨h2, e3, hB⟩ := dl_e hB
  refine rg_pi rfl rfl rfl (of_decide_eq_true c1) e3 ?_
  refine rg_p rfl rfl ?_
  refine rg_ic (v := (0 : Int32)) rfl (by decide) ?_
  show rg 3 7 _ _ _ _
  obtain ⟨c4, hB⟩ := dg_e hB
  obtain ⟨h5, e6, hB⟩ := dl_e hB
  refine rg_pi rfl rfl rfl (of_decide_eq_true c4) e6 ?_
  cases hB
  exact rg_rv rfl rfl
-- 121: RouteHouse$Wire.setTwo([BII)V
def F_121 (f : Nat) (a0 : Nat) (a1 : Int32) (a2 : Int32) (h : hp_T) : Option ev_O := (dg (aib 65 h a0 a1) (dl (wz h a0 (Int32.toNatClampNeg a1) (vp_nar .byte ((a2 >>> ((8 : Int32) &&& 31))).toInt8.toInt32)) fun h2 => (dg (aib 65 h2 a0 (a1 + (1 : Int32))) (dl (wz h2 a0 (Int32.toNatClampNeg (a1 + (1 : Int32))) (vp_nar .byte (a2).toInt8.toInt32)) fun h5 => (some (.inl none, h5))))))
theorem sF_121 {f : Nat} {a0 : Nat} {a1 : Int32} {a2 : Int32} {h : hp_T} {o : ev_O} (hB : F_121 f a0 a1 a2 h = some o) : rm 121 [.ref a0, .int a1, .int a2] h o := by
  unfold F_121 at hB
  refine rm_in (L := [.ref a0, .int a1, .int a2]) (Nat.le_of_ble_eq_true rfl) rfl ?_
  refine rg_p rfl rfl ?_
  refine rg_p rfl rfl ?_
  refine rg_p rfl rfl ?_
  refine rg_bi (v := (8 : Int32)) rfl (by decide) ?_
  refine rg_p rfl rfl ?_
  show rg 121 6 _ _ _ _
  refine rg_p rfl rfl ?_
  obtain ⟨c1, hB⟩ := dg_e hB
  obtain ⟨h2, e3, hB⟩ := dl_e hB
  refine rg_bs (t := 65) (ty := .byte) (by decide) rfl rfl (ai_of c1) e3 ?_
  refine rg_p rfl rfl ?_
  refine rg_p rfl rfl ?_
  refine rg_ic (v := (1 : Int32)) rfl (by decide) ?_
  refine rg_p rfl rfl ?_
  show rg 121 12 _ _ _ _
  refine rg_p rfl rfl ?_
  refine rg_p rfl rfl ?_
  obtain ⟨c4, hB⟩ := dg_e hB
  obtain ⟨h5, e6, hB⟩ := dl_e hB
  refine rg_bs (t := 65) (ty := .byte) (by decide) rfl rfl (ai_of c4) e6 ?_
  cases hB
  exact rg_rv rfl rfl
-- 123: RouteHouse$Wire.sumOf([BIII)I
def B_123_66 (f : Nat) (C6 : Nat → Int32 → Int32 → Int32 → Int32 → Int32 → hp_T → Option ev_O) (l0 : Nat) (l1 : Int32) (l2 : Int32) (l3 : Int32) (l4 : Int32) (l5 : Int32) (h : hp_T) : Option ev_O := (C6 l0 l1 l2 l3 l4 (l5 + (1 : Int32)) h)
theorem sB_123_66 (f : Nat) (C6 : Nat → Int32 → Int32 → Int32 → Int32 → Int32 → hp_T → Option ev_O) (hC6 : ∀ (l0 : Nat) (l1 : Int32) (l2 : Int32) (l3 : Int32) (l4 : Int32) (l5 : Int32) (w6 : Value) (h : hp_T) (o : ev_O), C6 l0 l1 l2 l3 l4 l5 h = some o → rg 123 6 [.ref l0, .int l1, .int l2, .int l3, .int l4, .int l5, w6] [] h o) (l0 : Nat) (l1 : Int32) (l2 : Int32) (l3 : Int32) (l4 : Int32) (l5 : Int32) (w6 : Value) (h : hp_T) (o : ev_O) (hB : B_123_66 f C6 l0 l1 l2 l3 l4 l5 h = some o) : rg 123 66 [.ref l0, .int l1, .int l2, .int l3, .int l4, .int l5, w6] [] h o := by
  unfold B_123_66 at hB
  refine rg_p (L' := [.ref l0, .int l1, .int l2, .int l3, .int l4, .int (l5 + (1 : Int32)), w6]) rfl rfl ?_
  refine rg_p (pc' := 6) rfl rfl ?_
  exact hC6 _ _ _ _ _ _ _ h _ hB
def B_123_63 (f : Nat) (C6 : Nat → Int32 → Int32 → Int32 → Int32 → Int32 → hp_T → Option ev_O) (l0 : Nat) (l1 : Int32) (l2 : Int32) (l3 : Int32) (l5 : Int32) (s0 : Int32) (s1 : Int32) (h : hp_T) : Option ev_O := (B_123_66 f C6 l0 l1 l2 l3 (s1 + s0) l5 h)
theorem sB_123_63 (f : Nat) (C6 : Nat → Int32 → Int32 → Int32 → Int32 → Int32 → hp_T → Option ev_O) (hC6 : ∀ (l0 : Nat) (l1 : Int32) (l2 : Int32) (l3 : Int32) (l4 : Int32) (l5 : Int32) (w6 : Value) (h : hp_T) (o : ev_O), C6 l0 l1 l2 l3 l4 l5 h = some o → rg 123 6 [.ref l0, .int l1, .int l2, .int l3, .int l4, .int l5, w6] [] h o) (l0 : Nat) (l1 : Int32) (l2 : Int32) (l3 : Int32) (l5 : Int32) (s0 : Int32) (s1 : Int32) (w4 : Value) (w6 : Value) (h : hp_T) (o : ev_O) (hB : B_123_63 f C6 l0 l1 l2 l3 l5 s0 s1 h = some o) : rg 123 63 [.ref l0, .int l1, .int l2, .int l3, w4, .int l5, w6] [.int s0, .int s1] h o := by
  unfold B_123_63 at hB
  refine rg_p rfl rfl ?_
  refine rg_p (L' := [.ref l0, .int l1, .int l2, .int l3, .int (s1 + s0), .int l5, w6]) rfl rfl ?_
  exact sB_123_66 f C6 hC6 _ _ _ _ _ _ _ h _ hB
def B_123_6 (f : Nat) : Nat → Nat → Int32 → Int32 → Int32 → Int32 → Int32 → hp_T → Option ev_O
  | 0, _, _, _, _, _, _, _ => none
  | g + 1, l0, l1, l2, l3, l4, l5, h => (db (ev_c .ge l5 l2) (some (.inl (some (.int ((((((l4 &&& (65535 : Int32)) + ((l4).toUInt32 >>> (((16 : Int32)).toUInt32 &&& Int32.toUInt32 31)).toInt32) &&& (65535 : Int32)) + ((((l4 &&& (65535 : Int32)) + ((l4).toUInt32 >>> (((16 : Int32)).toUInt32 &&& Int32.toUInt32 31)).toInt32)).toUInt32 >>> (((16 : Int32)).toUInt32 &&& Int32.toUInt32 31)).toInt32) ^^^ (-1 : Int32)) &&& (65535 : Int32)))), h)) (db (ev_c .eq (l1 + l5) l3) (B_123_66 f (B_123_6 f g) l0 l1 l2 l3 l4 l5 h) (db (ev_c .eq (l1 + l5) (l3 + (1 : Int32))) (B_123_66 f (B_123_6 f g) l0 l1 l2 l3 l4 l5 h) (db (ev_c .ne (l5 - l5 / (2 : Int32) * (2 : Int32)) 0) (dg (aib 65 h l0 (l1 + l5)) (B_123_63 f (B_123_6 f g) l0 l1 l2 l3 l5 ((hp_z h l0 (Int32.toNatClampNeg (l1 + l5))) &&& (255 : Int32)) l4 h)) (dg (aib 65 h l0 (l1 + l5)) (B_123_63 f (B_123_6 f g) l0 l1 l2 l3 l5 (((hp_z h l0 (Int32.toNatClampNeg (l1 + l5))) &&& (255 : Int32)) <<< ((8 : Int32) &&& 31)) l4 h))))))
theorem sB_123_6 (f : Nat) : ∀ (g : Nat) (l0 : Nat) (l1 : Int32) (l2 : Int32) (l3 : Int32) (l4 : Int32) (l5 : Int32) (w6 : Value) (h : hp_T) (o : ev_O), B_123_6 f g l0 l1 l2 l3 l4 l5 h = some o → rg 123 6 [.ref l0, .int l1, .int l2, .int l3, .int l4, .int l5, w6] [] h o := by
  intro g
  induction g with
  | zero =>
    intro l0 l1 l2 l3 l4 l5 w6 h o hB
    rw [B_123_6] at hB
    cases hB
  | succ g ih =>
    intro l0 l1 l2 l3 l4 l5 w6 h o hB
    rw [B_123_6] at hB
    refine rg_p rfl rfl ?_
    refine rg_p rfl rfl ?_
    rcases db_e hB with ⟨q1, hB⟩ | ⟨q1, hB⟩
    · refine rg_bt (t := 72) (pc' := 12) rfl rfl q1 ?_
      refine rg_p rfl rfl ?_
      refine rg_ld (v := (65535 : Int32)) rfl rfl ?_
      refine rg_p rfl rfl ?_
      refine rg_p rfl rfl ?_
      refine rg_bi (v := (16 : Int32)) rfl (by decide) ?_
      show rg 123 81 _ _ _ _
      refine rg_p rfl rfl ?_
      refine rg_p rfl rfl ?_
      refine rg_p (L' := [.ref l0, .int l1, .int l2, .int l3, .int ((l4 &&& (65535 : Int32)) + ((l4).toUInt32 >>> (((16 : Int32)).toUInt32 &&& Int32.toUInt32 31)).toInt32), .int l5, w6]) rfl rfl ?_
      refine rg_p rfl rfl ?_
      refine rg_ld (v := (65535 : Int32)) rfl rfl ?_
      refine rg_p rfl rfl ?_
      show rg 123 90 _ _ _ _
      refine rg_p rfl rfl ?_
      refine rg_bi (v := (16 : Int32)) rfl (by decide) ?_
      refine rg_p rfl rfl ?_
      refine rg_p rfl rfl ?_
      refine rg_p (L' := [.ref l0, .int l1, .int l2, .int l3, .int ((((l4 &&& (65535 : Int32)) + ((l4).toUInt32 >>> (((16 : Int32)).toUInt32 &&& Int32.toUInt32 31)).toInt32) &&& (65535 : Int32)) + ((((l4 &&& (65535 : Int32)) + ((l4).toUInt32 >>> (((16 : Int32)).toUInt32 &&& Int32.toUInt32 31)).toInt32)).toUInt32 >>> (((16 : Int32)).toUInt32 &&& Int32.toUInt32 31)).toInt32), .int l5, w6]) rfl rfl ?_
      refine rg_p rfl rfl ?_
      show rg 123 100 _ _ _ _
      refine rg_ic (v := (-1 : Int32)) rfl (by decide) ?_
      refine rg_p rfl rfl ?_
      refine rg_ld (v := (65535 : Int32)) rfl rfl ?_
      refine rg_p rfl rfl ?_
      cases hB
      exact rg_ri rfl rfl rfl
    · refine rg_bf (t := 72) (pc' := 12) rfl rfl q1 ?_
      refine rg_p rfl rfl ?_
      refine rg_p rfl rfl ?_
      refine rg_p rfl rfl ?_
      refine rg_p (L' := [.ref l0, .int l1, .int l2, .int l3, .int l4, .int l5, .int (l1 + l5)]) rfl rfl ?_
      refine rg_p rfl rfl ?_
      show rg 123 20 _ _ _ _
      refine rg_p rfl rfl ?_
      rcases db_e hB with ⟨q2, hB⟩ | ⟨q2, hB⟩
      · refine rg_bt (t := 66) (pc' := 24) rfl rfl q2 ?_
        exact sB_123_66 f (B_123_6 f g) ih _ _ _ _ _ _ _ h _ hB
      · refine rg_bf (t := 66) (pc' := 24) rfl rfl q2 ?_
        refine rg_p rfl rfl ?_
        refine rg_p rfl rfl ?_
        refine rg_ic (v := (1 : Int32)) rfl (by decide) ?_
        refine rg_p rfl rfl ?_
        rcases db_e hB with ⟨q3, hB⟩ | ⟨q3, hB⟩
        · refine rg_bt (t := 66) (pc' := 32) rfl rfl q3 ?_
          exact sB_123_66 f (B_123_6 f g) ih _ _ _ _ _ _ _ h _ hB
        · refine rg_bf (t := 66) (pc' := 32) rfl rfl q3 ?_
          refine rg_p rfl rfl ?_
          refine rg_p rfl rfl ?_
          refine rg_ic (v := (2 : Int32)) rfl (by decide) ?_
          refine rg_rm rfl (by decide) ?_
          rcases db_e hB with ⟨q4, hB⟩ | ⟨q4, hB⟩
          · refine rg_bt (t := 55) (pc' := 41) rfl rfl q4 ?_
            refine rg_p rfl rfl ?_
            refine rg_p rfl rfl ?_
            obtain ⟨c5, hB⟩ := dg_e hB
            refine rg_ba (t := 65) (by decide) rfl (ai_of c5) ?_
            refine rg_si (v := (255 : Int32)) rfl (by decide) ?_
            refine rg_p rfl rfl ?_
            exact sB_123_63 f (B_123_6 f g) ih _ _ _ _ _ _ _ _ _ h _ hB
          · refine rg_bf (t := 55) (pc' := 41) rfl rfl q4 ?_
            refine rg_p rfl rfl ?_
            refine rg_p rfl rfl ?_
            obtain ⟨c6, hB⟩ := dg_e hB
            refine rg_ba (t := 65) (by decide) rfl (ai_of c6) ?_
            refine rg_si (v := (255 : Int32)) rfl (by decide) ?_
            refine rg_p rfl rfl ?_
            show rg 123 49 _ _ _ _
            refine rg_bi (v := (8 : Int32)) rfl (by decide) ?_
            refine rg_p rfl rfl ?_
            refine rg_p (pc' := 63) rfl rfl ?_
            exact sB_123_63 f (B_123_6 f g) ih _ _ _ _ _ _ _ _ _ h _ hB
def F_123 (f : Nat) (a0 : Nat) (a1 : Int32) (a2 : Int32) (a3 : Int32) (h : hp_T) : Option ev_O := (B_123_6 f  f a0 a1 a2 a3 (0 : Int32) (0 : Int32) h)
theorem sF_123 {f : Nat} {a0 : Nat} {a1 : Int32} {a2 : Int32} {a3 : Int32} {h : hp_T} {o : ev_O} (hB : F_123 f a0 a1 a2 a3 h = some o) : rm 123 [.ref a0, .int a1, .int a2, .int a3] h o := by
  unfold F_123 at hB
  refine rm_in (L := [.ref a0, .int a1, .int a2, .int a3, .null, .null, .null]) (Nat.le_of_ble_eq_true rfl) rfl ?_
  refine rg_ic (v := (0 : Int32)) rfl (by decide) ?_
  refine rg_p (L' := [.ref a0, .int a1, .int a2, .int a3, .int (0 : Int32), .null, .null]) rfl rfl ?_
  refine rg_ic (v := (0 : Int32)) rfl (by decide) ?_
  refine rg_p (L' := [.ref a0, .int a1, .int a2, .int a3, .int (0 : Int32), .int (0 : Int32), .null]) rfl rfl ?_
  exact sB_123_6 f  f _ _ _ _ _ _ _ h _ hB
-- 5: RouteHouse$Outbox.addPiece(LRouteHouse$Packet;[BIIII)I
def B_5_119 (f : Nat) (l0 : Nat) (l1 : Nat) (l3 : Int32) (l4 : Int32) (l9 : Int32) (l10 : Int32) (s0 : Int32) (h : hp_T) : Option ev_O := (dg (decide (hp_k h l1 = some (2, 0))) (dp (hp_p h l1 0) fun r2 => (di (F_119 f r2 (6 : Int32) h) fun v7 h4 => (dg (decide (hp_k h4 l0 = some (1, 0))) (dp (hp_p h4 l0 0) fun r9 => (dv (F_121 f r9 ((hp_z h4 l0 7) + (2 : Int32)) l10 h4) fun h11 => (dg (decide (hp_k h11 l0 = some (1, 0))) (dp (hp_p h11 l0 0) fun r15 => (dv (F_121 f r15 ((hp_z h11 l0 7) + (6 : Int32)) ((v7 + (l4 / (8 : Int32))) ||| s0) h11) fun h17 => (dg (decide (hp_k h17 l0 = some (1, 0))) (dp (hp_p h17 l0 0) fun r21 => (di (F_123 f r21 (hp_z h17 l0 7) l3 ((hp_z h17 l0 7) + (10 : Int32)) h17) fun v26 h23 => (dv (F_121 f r21 ((hp_z h17 l0 7) + (10 : Int32)) v26 h23) fun h27 => (dg (decide (hp_k h27 l0 = some (1, 0))) (dp (hp_p h27 l0 1) fun r31 => (dg (aib 64 h27 r31 (hp_z h27 l0 6)) (dl (wz h27 r31 (Int32.toNatClampNeg (hp_z h27 l0 6)) (hp_z h27 l0 7)) fun h34 => (dg (decide (hp_k h34 l0 = some (1, 0))) (dp (hp_p h34 l0 2) fun r37 => (dg (aib 64 h34 r37 (hp_z h34 l0 6)) (dl (wz h34 r37 (Int32.toNatClampNeg (hp_z h34 l0 6)) l10) fun h40 => (dg (decide (hp_k h40 l0 = some (1, 0))) (dl (wz h40 l0 6 ((hp_z h40 l0 6) + (1 : Int32))) fun h43 => (dg (decide (hp_k h43 l0 = some (1, 0))) (dl (wz h43 l0 7 ((hp_z h43 l0 7) + l10)) fun h46 => (some (.inl (some (.int l9)), h46)))))))))))))))))))))))))))
theorem sB_5_119 (f : Nat) (l0 : Nat) (l1 : Nat) (l3 : Int32) (l4 : Int32) (l9 : Int32) (l10 : Int32) (s0 : Int32) (w2 : Value) (w5 : Value) (w6 : Value) (w7 : Value) (w8 : Value) (w11 : Value) (w12 : Value) (w13 : Value) (h : hp_T) (o : ev_O) (hB : B_5_119 f l0 l1 l3 l4 l9 l10 s0 h = some o) : rg 5 119 [.ref l0, .ref l1, w2, .int l3, .int l4, w5, w6, w7, w8, .int l9, .int l10, w11, w12, w13] [.int s0] h o := by
  unfold B_5_119 at hB
  refine rg_p (L' := [.ref l0, .ref l1, w2, .int l3, .int l4, w5, w6, w7, w8, .int l9, .int l10, .int s0, w12, w13]) rfl rfl ?_
  refine rg_p rfl rfl ?_
  obtain ⟨c1, hB⟩ := dg_e hB
  obtain ⟨r2, p3, hB⟩ := dp_e hB
  refine rg_gp rfl rfl rfl (of_decide_eq_true c1) p3 ?_
  refine rg_bi (v := (6 : Int32)) rfl (by decide) ?_
  rcases di_e hB with ⟨v7, h4, z5, hB⟩ | ⟨q6, h4, z5, hB⟩
  · refine rg_call (rg_s9 (n := 2) (as := [.ref r2, .int (6 : Int32)]) (ar := []) rfl (rg_s0 rfl) rfl rfl (Nat.le_of_ble_eq_true rfl) rfl rfl (Nat.le_of_ble_eq_true rfl)) (sF_119 z5) ?_
    refine rg_p rfl rfl ?_
    refine rg_bi (v := (8 : Int32)) rfl (by decide) ?_
    refine rg_dv rfl (by decide) ?_
    refine rg_p rfl rfl ?_
    refine rg_p rfl rfl ?_
    show rg 5 138 _ _ _ _
    refine rg_p rfl rfl ?_
    refine rg_p (L' := [.ref l0, .ref l1, w2, .int l3, .int l4, w5, w6, w7, w8, .int l9, .int l10, .int s0, .int ((v7 + (l4 / (8 : Int32))) ||| s0), w13]) rfl rfl ?_
    refine rg_p rfl rfl ?_
    obtain ⟨c8, hB⟩ := dg_e hB
    obtain ⟨r9, p10, hB⟩ := dp_e hB
    refine rg_gp rfl rfl rfl (of_decide_eq_true c8) p10 ?_
    refine rg_p rfl rfl ?_
    refine rg_gz rfl rfl rfl (of_decide_eq_true c8) ?_
    show rg 5 149 _ _ _ _
    refine rg_ic (v := (2 : Int32)) rfl (by decide) ?_
    refine rg_p rfl rfl ?_
    refine rg_p rfl rfl ?_
    rcases dv_e hB with ⟨h11, z12, hB⟩ | ⟨q13, h11, z12, hB⟩
    · refine rg_call (rg_s9 (n := 3) (as := [.ref r9, .int ((hp_z h4 l0 7) + (2 : Int32)), .int l10]) (ar := []) rfl (rg_s0 rfl) rfl rfl (Nat.le_of_ble_eq_true rfl) rfl rfl (Nat.le_of_ble_eq_true rfl)) (sF_121 z12) ?_
      refine rg_p rfl rfl ?_
      obtain ⟨c14, hB⟩ := dg_e hB
      obtain ⟨r15, p16, hB⟩ := dp_e hB
      refine rg_gp rfl rfl rfl (of_decide_eq_true c14) p16 ?_
      refine rg_p rfl rfl ?_
      refine rg_gz rfl rfl rfl (of_decide_eq_true c14) ?_
      refine rg_bi (v := (6 : Int32)) rfl (by decide) ?_
      show rg 5 166 _ _ _ _
      refine rg_p rfl rfl ?_
      refine rg_p rfl rfl ?_
      rcases dv_e hB with ⟨h17, z18, hB⟩ | ⟨q19, h17, z18, hB⟩
      · refine rg_call (rg_s9 (n := 3) (as := [.ref r15, .int ((hp_z h11 l0 7) + (6 : Int32)), .int ((v7 + (l4 / (8 : Int32))) ||| s0)]) (ar := []) rfl (rg_s0 rfl) rfl rfl (Nat.le_of_ble_eq_true rfl) rfl rfl (Nat.le_of_ble_eq_true rfl)) (sF_121 z18) ?_
        refine rg_p rfl rfl ?_
        obtain ⟨c20, hB⟩ := dg_e hB
        refine rg_gz rfl rfl rfl (of_decide_eq_true c20) ?_
        refine rg_bi (v := (10 : Int32)) rfl (by decide) ?_
        refine rg_p rfl rfl ?_
        refine rg_p (L' := [.ref l0, .ref l1, w2, .int l3, .int l4, w5, w6, w7, w8, .int l9, .int l10, .int s0, .int ((v7 + (l4 / (8 : Int32))) ||| s0), .int ((hp_z h17 l0 7) + (10 : Int32))]) rfl rfl ?_
        show rg 5 181 _ _ _ _
        refine rg_p rfl rfl ?_
        obtain ⟨r21, p22, hB⟩ := dp_e hB
        refine rg_gp rfl rfl rfl (of_decide_eq_true c20) p22 ?_
        refine rg_p rfl rfl ?_
        refine rg_p rfl rfl ?_
        refine rg_gp rfl rfl rfl (of_decide_eq_true c20) p22 ?_
        refine rg_p rfl rfl ?_
        show rg 5 192 _ _ _ _
        refine rg_gz rfl rfl rfl (of_decide_eq_true c20) ?_
        refine rg_p rfl rfl ?_
        refine rg_p rfl rfl ?_
        rcases di_e hB with ⟨v26, h23, z24, hB⟩ | ⟨q25, h23, z24, hB⟩
        · refine rg_call (rg_s9 (n := 4) (as := [.ref r21, .int (hp_z h17 l0 7), .int l3, .int ((hp_z h17 l0 7) + (10 : Int32))]) (ar := []) rfl (rg_s0 rfl) rfl rfl (Nat.le_of_ble_eq_true rfl) rfl rfl (Nat.le_of_ble_eq_true rfl)) (sF_123 z24) ?_
          rcases dv_e hB with ⟨h27, z28, hB⟩ | ⟨q29, h27, z28, hB⟩
          · refine rg_call (rg_s9 (n := 3) (as := [.ref r21, .int ((hp_z h17 l0 7) + (10 : Int32)), .int v26]) (ar := []) rfl (rg_s0 rfl) rfl rfl (Nat.le_of_ble_eq_true rfl) rfl rfl (Nat.le_of_ble_eq_true rfl)) (sF_121 z28) ?_
            refine rg_p rfl rfl ?_
            obtain ⟨c30, hB⟩ := dg_e hB
            obtain ⟨r31, p32, hB⟩ := dp_e hB
            refine rg_gp rfl rfl rfl (of_decide_eq_true c30) p32 ?_
            refine rg_p rfl rfl ?_
            refine rg_gz rfl rfl rfl (of_decide_eq_true c30) ?_
            refine rg_p rfl rfl ?_
            show rg 5 213 _ _ _ _
            refine rg_gz rfl rfl rfl (of_decide_eq_true c30) ?_
            obtain ⟨c33, hB⟩ := dg_e hB
            obtain ⟨h34, e35, hB⟩ := dl_e hB
            refine rg_is rfl (ai_of c33) e35 ?_
            refine rg_p rfl rfl ?_
            obtain ⟨c36, hB⟩ := dg_e hB
            obtain ⟨r37, p38, hB⟩ := dp_e hB
            refine rg_gp rfl rfl rfl (of_decide_eq_true c36) p38 ?_
            refine rg_p rfl rfl ?_
            refine rg_gz rfl rfl rfl (of_decide_eq_true c36) ?_
            show rg 5 225 _ _ _ _
            refine rg_p rfl rfl ?_
            obtain ⟨c39, hB⟩ := dg_e hB
            obtain ⟨h40, e41, hB⟩ := dl_e hB
            refine rg_is rfl (ai_of c39) e41 ?_
            refine rg_p rfl rfl ?_
            refine rg_p rfl rfl ?_
            obtain ⟨c42, hB⟩ := dg_e hB
            refine rg_gz rfl rfl rfl (of_decide_eq_true c42) ?_
            refine rg_ic (v := (1 : Int32)) rfl (by decide) ?_
            show rg 5 234 _ _ _ _
            refine rg_p rfl rfl ?_
            obtain ⟨h43, e44, hB⟩ := dl_e hB
            refine rg_pi rfl rfl rfl (of_decide_eq_true c42) e44 ?_
            refine rg_p rfl rfl ?_
            refine rg_p rfl rfl ?_
            obtain ⟨c45, hB⟩ := dg_e hB
            refine rg_gz rfl rfl rfl (of_decide_eq_true c45) ?_
            refine rg_p rfl rfl ?_
            show rg 5 245 _ _ _ _
            refine rg_p rfl rfl ?_
            obtain ⟨h46, e47, hB⟩ := dl_e hB
            refine rg_pi rfl rfl rfl (of_decide_eq_true c45) e47 ?_
            refine rg_p rfl rfl ?_
            cases hB
            exact rg_ri rfl rfl rfl
          · subst hB
            exact rg_callX (rg_s9 (n := 3) (as := [.ref r21, .int ((hp_z h17 l0 7) + (10 : Int32)), .int v26]) (ar := []) rfl (rg_s0 rfl) rfl rfl (Nat.le_of_ble_eq_true rfl) rfl rfl (Nat.le_of_ble_eq_true rfl)) (sF_121 z28)
        · subst hB
          exact rg_callX (rg_s9 (n := 4) (as := [.ref r21, .int (hp_z h17 l0 7), .int l3, .int ((hp_z h17 l0 7) + (10 : Int32))]) (ar := []) rfl (rg_s0 rfl) rfl rfl (Nat.le_of_ble_eq_true rfl) rfl rfl (Nat.le_of_ble_eq_true rfl)) (sF_123 z24)
      · subst hB
        exact rg_callX (rg_s9 (n := 3) (as := [.ref r15, .int ((hp_z h11 l0 7) + (6 : Int32)), .int ((v7 + (l4 / (8 : Int32))) ||| s0)]) (ar := []) rfl (rg_s0 rfl) rfl rfl (Nat.le_of_ble_eq_true rfl) rfl rfl (Nat.le_of_ble_eq_true rfl)) (sF_121 z18)
    · subst hB
      exact rg_callX (rg_s9 (n := 3) (as := [.ref r9, .int ((hp_z h4 l0 7) + (2 : Int32)), .int l10]) (ar := []) rfl (rg_s0 rfl) rfl rfl (Nat.le_of_ble_eq_true rfl) rfl rfl (Nat.le_of_ble_eq_true rfl)) (sF_121 z12)
  · subst hB
    exact rg_callX (rg_s9 (n := 2) (as := [.ref r2, .int (6 : Int32)]) (ar := []) rfl (rg_s0 rfl) rfl rfl (Nat.le_of_ble_eq_true rfl) rfl rfl (Nat.le_of_ble_eq_true rfl)) (sF_119 z5)
def B_5_63 (f : Nat) (h : hp_T) : Option ev_O := (some (.inl (some (.int (0 : Int32))), h))
theorem sB_5_63 (f : Nat) (w0 : Value) (w1 : Value) (w2 : Value) (w3 : Value) (w4 : Value) (w5 : Value) (w6 : Value) (w7 : Value) (w8 : Value) (w9 : Value) (w10 : Value) (w11 : Value) (w12 : Value) (w13 : Value) (h : hp_T) (o : ev_O) (hB : B_5_63 f  h = some o) : rg 5 63 [w0, w1, w2, w3, w4, w5, w6, w7, w8, w9, w10, w11, w12, w13] [] h o := by
  unfold B_5_63 at hB
  refine rg_ic (v := (0 : Int32)) rfl (by decide) ?_
  cases hB
  exact rg_ri rfl rfl rfl
def B_5_33 (f : Nat) (l0 : Nat) (l1 : Nat) (l2 : Nat) (l3 : Int32) (l4 : Int32) (l7 : Int32) (s0 : Int32) (h : hp_T) : Option ev_O := (dg (decide (hp_k h l0 = some (1, 0))) (db (ev_c .ge (hp_z h l0 6) (50 : Int32)) (B_5_63 f   h) (db (ev_c .le (l3 + s0) ((5000 : Int32) - (hp_z h l0 7))) (dp (hp_p h l0 0) fun r4 => (dg (acb 65 h l2 (0 : Int32) r4 (hp_z h l0 7) l3) (dl (wc h l2 (0 : Int32) r4 (hp_z h l0 7) l3) fun h7 => (dg (decide (hp_k h7 l1 = some (2, 0))) (dp (hp_p h7 l1 0) fun r10 => (di (F_8 f l1 h7) fun v15 h12 => (dg (decide (hp_k h12 l0 = some (1, 0))) (dp (hp_p h12 l0 0) fun r17 => (dg (acb 65 h12 r10 (v15 + l4) r17 ((hp_z h12 l0 7) + l3) s0) (dl (wc h12 r10 (v15 + l4) r17 ((hp_z h12 l0 7) + l3) s0) fun h20 => (db (ev_c .ge s0 l7) (B_5_119 f  l0 l1 l3 l4 s0 (l3 + s0) (0 : Int32) h20) (B_5_119 f  l0 l1 l3 l4 s0 (l3 + s0) (8192 : Int32) h20)))))))))))) (B_5_63 f   h))))
theorem sB_5_33 (f : Nat) (l0 : Nat) (l1 : Nat) (l2 : Nat) (l3 : Int32) (l4 : Int32) (l7 : Int32) (s0 : Int32) (w5 : Value) (w6 : Value) (w8 : Value) (w9 : Value) (w10 : Value) (w11 : Value) (w12 : Value) (w13 : Value) (h : hp_T) (o : ev_O) (hB : B_5_33 f l0 l1 l2 l3 l4 l7 s0 h = some o) : rg 5 33 [.ref l0, .ref l1, .ref l2, .int l3, .int l4, w5, w6, .int l7, w8, w9, w10, w11, w12, w13] [.int s0] h o := by
  unfold B_5_33 at hB
  refine rg_p (L' := [.ref l0, .ref l1, .ref l2, .int l3, .int l4, w5, w6, .int l7, w8, .int s0, w10, w11, w12, w13]) rfl rfl ?_
  refine rg_p rfl rfl ?_
  refine rg_p rfl rfl ?_
  refine rg_p rfl rfl ?_
  refine rg_p (L' := [.ref l0, .ref l1, .ref l2, .int l3, .int l4, w5, w6, .int l7, w8, .int s0, .int (l3 + s0), w11, w12, w13]) rfl rfl ?_
  show rg 5 41 _ _ _ _
  refine rg_p rfl rfl ?_
  obtain ⟨c1, hB⟩ := dg_e hB
  refine rg_gz rfl rfl rfl (of_decide_eq_true c1) ?_
  refine rg_bi (v := (50 : Int32)) rfl (by decide) ?_
  rcases db_e hB with ⟨q2, hB⟩ | ⟨q2, hB⟩
  · refine rg_bt (t := 63) (pc' := 50) rfl rfl q2 ?_
    exact sB_5_63 f  _ _ _ _ _ _ _ _ _ _ _ _ _ _ h _ hB
  · refine rg_bf (t := 63) (pc' := 50) rfl rfl q2 ?_
    refine rg_p rfl rfl ?_
    refine rg_si (v := (5000 : Int32)) rfl (by decide) ?_
    refine rg_p rfl rfl ?_
    refine rg_gz rfl rfl rfl (of_decide_eq_true c1) ?_
    refine rg_p rfl rfl ?_
    show rg 5 60 _ _ _ _
    rcases db_e hB with ⟨q3, hB⟩ | ⟨q3, hB⟩
    · refine rg_bt (t := 65) (pc' := 63) rfl rfl q3 ?_
      refine rg_p rfl rfl ?_
      refine rg_ic (v := (0 : Int32)) rfl (by decide) ?_
      refine rg_p rfl rfl ?_
      obtain ⟨r4, p5, hB⟩ := dp_e hB
      refine rg_gp rfl rfl rfl (of_decide_eq_true c1) p5 ?_
      refine rg_p rfl rfl ?_
      show rg 5 72 _ _ _ _
      refine rg_gz rfl rfl rfl (of_decide_eq_true c1) ?_
      refine rg_p rfl rfl ?_
      obtain ⟨c6, hB⟩ := dg_e hB
      obtain ⟨h7, e8, hB⟩ := dl_e hB
      refine rg_cp (t := 65) (by decide) rfl rfl (Nat.le_of_ble_eq_true rfl) (ac_of c6) e8 ?_
      refine rg_p rfl rfl ?_
      obtain ⟨c9, hB⟩ := dg_e hB
      obtain ⟨r10, p11, hB⟩ := dp_e hB
      refine rg_gp rfl rfl rfl (of_decide_eq_true c9) p11 ?_
      refine rg_p rfl rfl ?_
      show rg 5 84 _ _ _ _
      rcases di_e hB with ⟨v15, h12, z13, hB⟩ | ⟨q14, h12, z13, hB⟩
      · refine rg_call (rg_v9 (n := 0) (b := l1) (as := [.ref l1]) (ar := []) rfl rfl rfl (Nat.le_of_ble_eq_true rfl) rfl rfl (Nat.le_of_ble_eq_true rfl) (of_decide_eq_true c9)) (sF_8 z13) ?_
        refine rg_p rfl rfl ?_
        refine rg_p rfl rfl ?_
        refine rg_p rfl rfl ?_
        obtain ⟨c16, hB⟩ := dg_e hB
        obtain ⟨r17, p18, hB⟩ := dp_e hB
        refine rg_gp rfl rfl rfl (of_decide_eq_true c16) p18 ?_
        refine rg_p rfl rfl ?_
        show rg 5 95 _ _ _ _
        refine rg_gz rfl rfl rfl (of_decide_eq_true c16) ?_
        refine rg_p rfl rfl ?_
        refine rg_p rfl rfl ?_
        refine rg_p rfl rfl ?_
        obtain ⟨c19, hB⟩ := dg_e hB
        obtain ⟨h20, e21, hB⟩ := dl_e hB
        refine rg_cp (t := 65) (by decide) rfl rfl (Nat.le_of_ble_eq_true rfl) (ac_of c19) e21 ?_
        refine rg_p rfl rfl ?_
        show rg 5 107 _ _ _ _
        refine rg_p rfl rfl ?_
        rcases db_e hB with ⟨q22, hB⟩ | ⟨q22, hB⟩
        · refine rg_bt (t := 118) (pc' := 112) rfl rfl q22 ?_
          refine rg_ic (v := (0 : Int32)) rfl (by decide) ?_
          exact sB_5_119 f  _ _ _ _ _ _ _ _ _ _ _ _ _ _ _ h20 _ hB
        · refine rg_bf (t := 118) (pc' := 112) rfl rfl q22 ?_
          refine rg_si (v := (8192 : Int32)) rfl (by decide) ?_
          refine rg_p (pc' := 119) rfl rfl ?_
          exact sB_5_119 f  _ _ _ _ _ _ _ _ _ _ _ _ _ _ _ h20 _ hB
      · subst hB
        exact rg_callX (rg_v9 (n := 0) (b := l1) (as := [.ref l1]) (ar := []) rfl rfl rfl (Nat.le_of_ble_eq_true rfl) rfl rfl (Nat.le_of_ble_eq_true rfl) (of_decide_eq_true c9)) (sF_8 z13)
    · refine rg_bf (t := 65) (pc' := 63) rfl rfl q3 ?_
      exact sB_5_63 f  _ _ _ _ _ _ _ _ _ _ _ _ _ _ h _ hB
def F_5 (f : Nat) (a0 : Nat) (a1 : Nat) (a2 : Nat) (a3 : Int32) (a4 : Int32) (a5 : Int32) (a6 : Int32) (h : hp_T) : Option ev_O := (db (ev_c .gt (a5 - a4) (a6 - a3)) (B_5_33 f  a0 a1 a2 a3 a4 (a5 - a4) (((a6 - a3) / (8 : Int32)) * (8 : Int32)) h) (B_5_33 f  a0 a1 a2 a3 a4 (a5 - a4) (a5 - a4) h))
theorem sF_5 {f : Nat} {a0 : Nat} {a1 : Nat} {a2 : Nat} {a3 : Int32} {a4 : Int32} {a5 : Int32} {a6 : Int32} {h : hp_T} {o : ev_O} (hB : F_5 f a0 a1 a2 a3 a4 a5 a6 h = some o) : rm 5 [.ref a0, .ref a1, .ref a2, .int a3, .int a4, .int a5, .int a6] h o := by
  unfold F_5 at hB
  refine rm_in (L := [.ref a0, .ref a1, .ref a2, .int a3, .int a4, .int a5, .int a6, .null, .null, .null, .null, .null, .null, .null]) (Nat.le_of_ble_eq_true rfl) rfl ?_
  refine rg_p rfl rfl ?_
  refine rg_p rfl rfl ?_
  refine rg_p rfl rfl ?_
  refine rg_p (L' := [.ref a0, .ref a1, .ref a2, .int a3, .int a4, .int a5, .int a6, .int (a5 - a4), .null, .null, .null, .null, .null, .null]) rfl rfl ?_
  refine rg_p rfl rfl ?_
  show rg 5 9 _ _ _ _
  refine rg_p rfl rfl ?_
  refine rg_p rfl rfl ?_
  refine rg_p (L' := [.ref a0, .ref a1, .ref a2, .int a3, .int a4, .int a5, .int a6, .int (a5 - a4), .int (a6 - a3), .null, .null, .null, .null, .null]) rfl rfl ?_
  refine rg_p rfl rfl ?_
  refine rg_p rfl rfl ?_
  rcases db_e hB with ⟨q1, hB⟩ | ⟨q1, hB⟩
  · refine rg_bt (t := 25) (pc' := 20) rfl rfl q1 ?_
    refine rg_p rfl rfl ?_
    refine rg_bi (v := (8 : Int32)) rfl (by decide) ?_
    refine rg_dv rfl (by decide) ?_
    refine rg_bi (v := (8 : Int32)) rfl (by decide) ?_
    refine rg_p rfl rfl ?_
    exact sB_5_33 f  _ _ _ _ _ _ _ _ _ _ _ _ _ _ _ h _ hB
  · refine rg_bf (t := 25) (pc' := 20) rfl rfl q1 ?_
    refine rg_p rfl rfl ?_
    refine rg_p (pc' := 33) rfl rfl ?_
    exact sB_5_33 f  _ _ _ _ _ _ _ _ _ _ _ _ _ _ _ h _ hB
-- 22: RouteHouse$Packet.optionSize(II)I
def B_22_51 (f : Nat) (s0 : Int32) (h : hp_T) : Option ev_O := (some (.inl (some (.int s0)), h))
theorem sB_22_51 (f : Nat) (s0 : Int32) (w0 : Value) (w1 : Value) (w2 : Value) (w3 : Value) (h : hp_T) (o : ev_O) (hB : B_22_51 f s0 h = some o) : rg 22 51 [w0, w1, w2, w3] [.int s0] h o := by
  unfold B_22_51 at hB
  cases hB
  exact rg_ri rfl rfl rfl
def B_22_46 (f : Nat) (h : hp_T) : Option ev_O := (B_22_51 f  (0 : Int32) h)
theorem sB_22_46 (f : Nat) (w0 : Value) (w1 : Value) (w2 : Value) (w3 : Value) (h : hp_T) (o : ev_O) (hB : B_22_46 f  h = some o) : rg 22 46 [w0, w1, w2, w3] [] h o := by
  unfold B_22_46 at hB
  refine rg_ic (v := (0 : Int32)) rfl (by decide) ?_
  refine rg_p (pc' := 51) rfl rfl ?_
  exact sB_22_51 f  _ _ _ _ _ h _ hB
def F_22 (f : Nat) (a0 : Nat) (a1 : Int32) (a2 : Int32) (h : hp_T) : Option ev_O := (dg (decide (hp_k h a0 = some (2, 0))) (dp (hp_p h a0 0) fun r2 => (dg (aib 65 h r2 a1) (db (ev_c .ne (hp_z h r2 (Int32.toNatClampNeg a1)) (1 : Int32)) (db (ev_c .lt (a1 + (1 : Int32)) a2) (dg (aib 65 h r2 (a1 + (1 : Int32))) (db (ev_c .lt ((hp_z h r2 (Int32.toNatClampNeg (a1 + (1 : Int32)))) &&& (255 : Int32)) (2 : Int32)) (B_22_46 f   h) (db (ev_c .le (a1 + ((hp_z h r2 (Int32.toNatClampNeg (a1 + (1 : Int32)))) &&& (255 : Int32))) a2) (B_22_51 f  ((hp_z h r2 (Int32.toNatClampNeg (a1 + (1 : Int32)))) &&& (255 : Int32)) h) (B_22_46 f   h)))) (some (.inl (some (.int (0 : Int32))), h))) (some (.inl (some (.int (1 : Int32))), h))))))
theorem sF_22 {f : Nat} {a0 : Nat} {a1 : Int32} {a2 : Int32} {h : hp_T} {o : ev_O} (hB : F_22 f a0 a1 a2 h = some o) : rm 22 [.ref a0, .int a1, .int a2] h o := by
  unfold F_22 at hB
  refine rm_in (L := [.ref a0, .int a1, .int a2, .null]) (Nat.le_of_ble_eq_true rfl) rfl ?_
  refine rg_p rfl rfl ?_
  obtain ⟨c1, hB⟩ := dg_e hB
  obtain ⟨r2, p3, hB⟩ := dp_e hB
  refine rg_gp rfl rfl rfl (of_decide_eq_true c1) p3 ?_
  refine rg_p rfl rfl ?_
  obtain ⟨c4, hB⟩ := dg_e hB
  refine rg_ba (t := 65) (by decide) rfl (ai_of c4) ?_
  refine rg_ic (v := (1 : Int32)) rfl (by decide) ?_
  show rg 22 7 _ _ _ _
  rcases db_e hB with ⟨q5, hB⟩ | ⟨q5, hB⟩
  · refine rg_bt (t := 12) (pc' := 10) rfl rfl q5 ?_
    refine rg_p rfl rfl ?_
    refine rg_ic (v := (1 : Int32)) rfl (by decide) ?_
    refine rg_p rfl rfl ?_
    refine rg_p rfl rfl ?_
    rcases db_e hB with ⟨q6, hB⟩ | ⟨q6, hB⟩
    · refine rg_bt (t := 21) (pc' := 19) rfl rfl q6 ?_
      refine rg_p rfl rfl ?_
      refine rg_gp rfl rfl rfl (of_decide_eq_true c1) p3 ?_
      refine rg_p rfl rfl ?_
      refine rg_ic (v := (1 : Int32)) rfl (by decide) ?_
      refine rg_p rfl rfl ?_
      show rg 22 28 _ _ _ _
      obtain ⟨c7, hB⟩ := dg_e hB
      refine rg_ba (t := 65) (by decide) rfl (ai_of c7) ?_
      refine rg_si (v := (255 : Int32)) rfl (by decide) ?_
      refine rg_p rfl rfl ?_
      refine rg_p (L' := [.ref a0, .int a1, .int a2, .int ((hp_z h r2 (Int32.toNatClampNeg (a1 + (1 : Int32)))) &&& (255 : Int32))]) rfl rfl ?_
      refine rg_p rfl rfl ?_
      refine rg_ic (v := (2 : Int32)) rfl (by decide) ?_
      show rg 22 36 _ _ _ _
      rcases db_e hB with ⟨q8, hB⟩ | ⟨q8, hB⟩
      · refine rg_bt (t := 46) (pc' := 39) rfl rfl q8 ?_
        exact sB_22_46 f  _ _ _ _ h _ hB
      · refine rg_bf (t := 46) (pc' := 39) rfl rfl q8 ?_
        refine rg_p rfl rfl ?_
        refine rg_p rfl rfl ?_
        refine rg_p rfl rfl ?_
        refine rg_p rfl rfl ?_
        rcases db_e hB with ⟨q9, hB⟩ | ⟨q9, hB⟩
        · refine rg_bt (t := 50) (pc' := 46) rfl rfl q9 ?_
          refine rg_p rfl rfl ?_
          exact sB_22_51 f  _ _ _ _ _ h _ hB
        · refine rg_bf (t := 50) (pc' := 46) rfl rfl q9 ?_
          exact sB_22_46 f  _ _ _ _ h _ hB
    · refine rg_bf (t := 21) (pc' := 19) rfl rfl q6 ?_
      refine rg_ic (v := (0 : Int32)) rfl (by decide) ?_
      cases hB
      exact rg_ri rfl rfl rfl
  · refine rg_bf (t := 12) (pc' := 10) rfl rfl q5 ?_
    refine rg_ic (v := (1 : Int32)) rfl (by decide) ?_
    cases hB
    exact rg_ri rfl rfl rfl
-- 6: RouteHouse$Outbox.makeLaterHeader(LRouteHouse$Packet;)I
def B_6_126 (f : Nat) (l0 : Nat) (l4 : Int32) (h : hp_T) : Option ev_O := (dg (decide (hp_k h l0 = some (1, 0))) (dp (hp_p h l0 5) fun r2 => (dg (aib 65 h r2 (0 : Int32)) (dl (wz h r2 (Int32.toNatClampNeg (0 : Int32)) (vp_nar .byte (((64 : Int32) + (l4 / (4 : Int32)))).toInt8.toInt32)) fun h5 => (some (.inl (some (.int l4)), h5))))))
theorem sB_6_126 (f : Nat) (l0 : Nat) (l4 : Int32) (w1 : Value) (w2 : Value) (w3 : Value) (w5 : Value) (w6 : Value) (h : hp_T) (o : ev_O) (hB : B_6_126 f l0 l4 h = some o) : rg 6 126 [.ref l0, w1, w2, w3, .int l4, w5, w6] [] h o := by
  unfold B_6_126 at hB
  refine rg_p rfl rfl ?_
  obtain ⟨c1, hB⟩ := dg_e hB
  obtain ⟨r2, p3, hB⟩ := dp_e hB
  refine rg_gp rfl rfl rfl (of_decide_eq_true c1) p3 ?_
  refine rg_ic (v := (0 : Int32)) rfl (by decide) ?_
  refine rg_bi (v := (64 : Int32)) rfl (by decide) ?_
  refine rg_p rfl rfl ?_
  show rg 6 135 _ _ _ _
  refine rg_ic (v := (4 : Int32)) rfl (by decide) ?_
  refine rg_dv rfl (by decide) ?_
  refine rg_p rfl rfl ?_
  refine rg_p rfl rfl ?_
  obtain ⟨c4, hB⟩ := dg_e hB
  obtain ⟨h5, e6, hB⟩ := dl_e hB
  refine rg_bs (t := 65) (ty := .byte) (by decide) rfl rfl (ai_of c4) e6 ?_
  refine rg_p rfl rfl ?_
  show rg 6 142 _ _ _ _
  cases hB
  exact rg_ri rfl rfl rfl
def B_6_98 (f : Nat) : Nat → Nat → Int32 → hp_T → Option ev_O
  | 0, _, _, _ => none
  | g + 1, l0, l4, h => (db (ev_c .eq (l4 - l4 / (4 : Int32) * (4 : Int32)) 0) (B_6_126 f  l0 l4 h) (db (ev_c .ge l4 (60 : Int32)) (B_6_126 f  l0 l4 h) (dg (decide (hp_k h l0 = some (1, 0))) (dp (hp_p h l0 5) fun r4 => (dg (aib 65 h r4 l4) (dl (wz h r4 (Int32.toNatClampNeg l4) (vp_nar .byte (0 : Int32))) fun h7 => ((B_6_98 f g) l0 (l4 + (1 : Int32)) h7)))))))
theorem sB_6_98 (f : Nat) : ∀ (g : Nat) (l0 : Nat) (l4 : Int32) (w1 : Value) (w2 : Value) (w3 : Value) (w5 : Value) (w6 : Value) (h : hp_T) (o : ev_O), B_6_98 f g l0 l4 h = some o → rg 6 98 [.ref l0, w1, w2, w3, .int l4, w5, w6] [] h o := by
  intro g
  induction g with
  | zero =>
    intro l0 l4 w1 w2 w3 w5 w6 h o hB
    rw [B_6_98] at hB
    cases hB
  | succ g ih =>
    intro l0 l4 w1 w2 w3 w5 w6 h o hB
    rw [B_6_98] at hB
    refine rg_p rfl rfl ?_
    refine rg_ic (v := (4 : Int32)) rfl (by decide) ?_
    refine rg_rm rfl (by decide) ?_
    rcases db_e hB with ⟨q1, hB⟩ | ⟨q1, hB⟩
    · refine rg_bt (t := 126) (pc' := 105) rfl rfl q1 ?_
      exact sB_6_126 f  _ _ _ _ _ _ _ h _ hB
    · refine rg_bf (t := 126) (pc' := 105) rfl rfl q1 ?_
      refine rg_p rfl rfl ?_
      refine rg_bi (v := (60 : Int32)) rfl (by decide) ?_
      rcases db_e hB with ⟨q2, hB⟩ | ⟨q2, hB⟩
      · refine rg_bt (t := 126) (pc' := 112) rfl rfl q2 ?_
        exact sB_6_126 f  _ _ _ _ _ _ _ h _ hB
      · refine rg_bf (t := 126) (pc' := 112) rfl rfl q2 ?_
        refine rg_p rfl rfl ?_
        obtain ⟨c3, hB⟩ := dg_e hB
        obtain ⟨r4, p5, hB⟩ := dp_e hB
        refine rg_gp rfl rfl rfl (of_decide_eq_true c3) p5 ?_
        refine rg_p rfl rfl ?_
        refine rg_ic (v := (0 : Int32)) rfl (by decide) ?_
        obtain ⟨c6, hB⟩ := dg_e hB
        obtain ⟨h7, e8, hB⟩ := dl_e hB
        refine rg_bs (t := 65) (ty := .byte) (by decide) rfl rfl (ai_of c6) e8 ?_
        show rg 6 120 _ _ _ _
        refine rg_p (L' := [.ref l0, w1, w2, w3, .int (l4 + (1 : Int32)), w5, w6]) rfl rfl ?_
        refine rg_p (pc' := 98) rfl rfl ?_
        exact ih _ _ _ _ _ _ _ h7 _ hB
def B_6_88 (f : Nat) (C33 : Nat → Nat → Nat → Int32 → Int32 → Int32 → Int32 → hp_T → Option ev_O) (l0 : Nat) (l1 : Nat) (l2 : Nat) (l3 : Int32) (l4 : Int32) (l5 : Int32) (l6 : Int32) (h : hp_T) : Option ev_O := (C33 l0 l1 l2 l3 l4 l5 (l6 + l5) h)
theorem sB_6_88 (f : Nat) (C33 : Nat → Nat → Nat → Int32 → Int32 → Int32 → Int32 → hp_T → Option ev_O) (hC33 : ∀ (l0 : Nat) (l1 : Nat) (l2 : Nat) (l3 : Int32) (l4 : Int32) (l5 : Int32) (l6 : Int32) (h : hp_T) (o : ev_O), C33 l0 l1 l2 l3 l4 l5 l6 h = some o → rg 6 33 [.ref l0, .ref l1, .ref l2, .int l3, .int l4, .int l5, .int l6] [] h o) (l0 : Nat) (l1 : Nat) (l2 : Nat) (l3 : Int32) (l4 : Int32) (l5 : Int32) (l6 : Int32) (h : hp_T) (o : ev_O) (hB : B_6_88 f C33 l0 l1 l2 l3 l4 l5 l6 h = some o) : rg 6 88 [.ref l0, .ref l1, .ref l2, .int l3, .int l4, .int l5, .int l6] [] h o := by
  unfold B_6_88 at hB
  refine rg_p rfl rfl ?_
  refine rg_p rfl rfl ?_
  refine rg_p rfl rfl ?_
  refine rg_p (L' := [.ref l0, .ref l1, .ref l2, .int l3, .int l4, .int l5, .int (l6 + l5)]) rfl rfl ?_
  refine rg_p (pc' := 33) rfl rfl ?_
  exact hC33 _ _ _ _ _ _ _ h _ hB
def B_6_33 (f : Nat) : Nat → Nat → Nat → Nat → Int32 → Int32 → Int32 → Int32 → hp_T → Option ev_O
  | 0, _, _, _, _, _, _, _, _ => none
  | g + 1, l0, l1, l2, l3, l4, l5, l6, h => (db (ev_c .ge l6 l3) (B_6_98 f  f l0 l4 h) (dg (aib 65 h l2 l6) (db (ev_c .eq (hp_z h l2 (Int32.toNatClampNeg l6)) 0) (B_6_98 f  f l0 l4 h) (db (ev_c .le l5 0) (B_6_98 f  f l0 l4 h) (dg (decide (hp_k h l1 = some (2, 0))) (di (F_22 f l1 l6 l3 h) fun v9 h6 => (dg (aib 65 h6 l2 l6) (db (ev_c .ge (hp_z h6 l2 (Int32.toNatClampNeg l6)) 0) (B_6_88 f (B_6_33 f g) l0 l1 l2 l3 l4 v9 l6 h6) (dg (decide (hp_k h6 l0 = some (1, 0))) (dp (hp_p h6 l0 5) fun r13 => (dg (acb 65 h6 l2 l6 r13 l4 v9) (dl (wc h6 l2 l6 r13 l4 v9) fun h16 => (B_6_88 f (B_6_33 f g) l0 l1 l2 l3 (l4 + v9) v9 l6 h16)))))))))))))
theorem sB_6_33 (f : Nat) : ∀ (g : Nat) (l0 : Nat) (l1 : Nat) (l2 : Nat) (l3 : Int32) (l4 : Int32) (l5 : Int32) (l6 : Int32) (h : hp_T) (o : ev_O), B_6_33 f g l0 l1 l2 l3 l4 l5 l6 h = some o → rg 6 33 [.ref l0, .ref l1, .ref l2, .int l3, .int l4, .int l5, .int l6] [] h o := by
  intro g
  induction g with
  | zero =>
    intro l0 l1 l2 l3 l4 l5 l6  h o hB
    rw [B_6_33] at hB
    cases hB
  | succ g ih =>
    intro l0 l1 l2 l3 l4 l5 l6  h o hB
    rw [B_6_33] at hB
    refine rg_p rfl rfl ?_
    refine rg_p rfl rfl ?_
    rcases db_e hB with ⟨q1, hB⟩ | ⟨q1, hB⟩
    · refine rg_bt (t := 98) (pc' := 39) rfl rfl q1 ?_
      exact sB_6_98 f  f _ _ _ _ _ _ _ h _ hB
    · refine rg_bf (t := 98) (pc' := 39) rfl rfl q1 ?_
      refine rg_p rfl rfl ?_
      refine rg_p rfl rfl ?_
      obtain ⟨c2, hB⟩ := dg_e hB
      refine rg_ba (t := 65) (by decide) rfl (ai_of c2) ?_
      rcases db_e hB with ⟨q3, hB⟩ | ⟨q3, hB⟩
      · refine rg_bt (t := 98) (pc' := 46) rfl rfl q3 ?_
        exact sB_6_98 f  f _ _ _ _ _ _ _ h _ hB
      · refine rg_bf (t := 98) (pc' := 46) rfl rfl q3 ?_
        refine rg_p rfl rfl ?_
        rcases db_e hB with ⟨q4, hB⟩ | ⟨q4, hB⟩
        · refine rg_bt (t := 98) (pc' := 51) rfl rfl q4 ?_
          exact sB_6_98 f  f _ _ _ _ _ _ _ h _ hB
        · refine rg_bf (t := 98) (pc' := 51) rfl rfl q4 ?_
          refine rg_p rfl rfl ?_
          refine rg_p rfl rfl ?_
          refine rg_p rfl rfl ?_
          obtain ⟨c5, hB⟩ := dg_e hB
          rcases di_e hB with ⟨v9, h6, z7, hB⟩ | ⟨q8, h6, z7, hB⟩
          · refine rg_call (rg_v9 (n := 2) (b := l1) (as := [.ref l1, .int l6, .int l3]) (ar := []) rfl rfl rfl (Nat.le_of_ble_eq_true rfl) rfl rfl (Nat.le_of_ble_eq_true rfl) (of_decide_eq_true c5)) (sF_22 z7) ?_
            refine rg_p (L' := [.ref l0, .ref l1, .ref l2, .int l3, .int l4, .int v9, .int l6]) rfl rfl ?_
            refine rg_p rfl rfl ?_
            refine rg_p rfl rfl ?_
            obtain ⟨c10, hB⟩ := dg_e hB
            refine rg_ba (t := 65) (by decide) rfl (ai_of c10) ?_
            rcases db_e hB with ⟨q11, hB⟩ | ⟨q11, hB⟩
            · refine rg_bt (t := 88) (pc' := 67) rfl rfl q11 ?_
              exact sB_6_88 f (B_6_33 f g) ih _ _ _ _ _ _ _ h6 _ hB
            · refine rg_bf (t := 88) (pc' := 67) rfl rfl q11 ?_
              refine rg_p rfl rfl ?_
              refine rg_p rfl rfl ?_
              refine rg_p rfl rfl ?_
              obtain ⟨c12, hB⟩ := dg_e hB
              obtain ⟨r13, p14, hB⟩ := dp_e hB
              refine rg_gp rfl rfl rfl (of_decide_eq_true c12) p14 ?_
              refine rg_p rfl rfl ?_
              show rg 6 76 _ _ _ _
              refine rg_p rfl rfl ?_
              obtain ⟨c15, hB⟩ := dg_e hB
              obtain ⟨h16, e17, hB⟩ := dl_e hB
              refine rg_cp (t := 65) (by decide) rfl rfl (Nat.le_of_ble_eq_true rfl) (ac_of c15) e17 ?_
              refine rg_p rfl rfl ?_
              refine rg_p rfl rfl ?_
              refine rg_p rfl rfl ?_
              refine rg_p (L' := [.ref l0, .ref l1, .ref l2, .int l3, .int (l4 + v9), .int v9, .int l6]) rfl rfl ?_
              exact sB_6_88 f (B_6_33 f g) ih _ _ _ _ _ _ _ h16 _ hB
          · subst hB
            exact rg_callX (rg_v9 (n := 2) (b := l1) (as := [.ref l1, .int l6, .int l3]) (ar := []) rfl rfl rfl (Nat.le_of_ble_eq_true rfl) rfl rfl (Nat.le_of_ble_eq_true rfl) (of_decide_eq_true c5)) (sF_22 z7)
def F_6 (f : Nat) (a0 : Nat) (a1 : Nat) (h : hp_T) : Option ev_O := (dg (decide (hp_k h a1 = some (2, 0))) (dp (hp_p h a1 0) fun r2 => (dg (decide (hp_k h a0 = some (1, 0))) (dp (hp_p h a0 5) fun r5 => (dg (acb 65 h r2 (0 : Int32) r5 (0 : Int32) (20 : Int32)) (dl (wc h r2 (0 : Int32) r5 (0 : Int32) (20 : Int32)) fun h8 => (dg (decide (hp_k h8 a1 = some (2, 0))) (di (F_8 f a1 h8) fun v14 h11 => (B_6_33 f  f a0 a1 r2 v14 (20 : Int32) (1 : Int32) (20 : Int32) h11)))))))))
theorem sF_6 {f : Nat} {a0 : Nat} {a1 : Nat} {h : hp_T} {o : ev_O} (hB : F_6 f a0 a1 h = some o) : rm 6 [.ref a0, .ref a1] h o := by
  unfold F_6 at hB
  refine rm_in (L := [.ref a0, .ref a1, .null, .null, .null, .null, .null]) (Nat.le_of_ble_eq_true rfl) rfl ?_
  refine rg_p rfl rfl ?_
  obtain ⟨c1, hB⟩ := dg_e hB
  obtain ⟨r2, p3, hB⟩ := dp_e hB
  refine rg_gp rfl rfl rfl (of_decide_eq_true c1) p3 ?_
  refine rg_p (L' := [.ref a0, .ref a1, .ref r2, .null, .null, .null, .null]) rfl rfl ?_
  refine rg_p rfl rfl ?_
  refine rg_ic (v := (0 : Int32)) rfl (by decide) ?_
  show rg 6 7 _ _ _ _
  refine rg_p rfl rfl ?_
  obtain ⟨c4, hB⟩ := dg_e hB
  obtain ⟨r5, p6, hB⟩ := dp_e hB
  refine rg_gp rfl rfl rfl (of_decide_eq_true c4) p6 ?_
  refine rg_ic (v := (0 : Int32)) rfl (by decide) ?_
  refine rg_bi (v := (20 : Int32)) rfl (by decide) ?_
  obtain ⟨c7, hB⟩ := dg_e hB
  obtain ⟨h8, e9, hB⟩ := dl_e hB
  refine rg_cp (t := 65) (by decide) rfl rfl (Nat.le_of_ble_eq_true rfl) (ac_of c7) e9 ?_
  refine rg_p rfl rfl ?_
  show rg 6 18 _ _ _ _
  obtain ⟨c10, hB⟩ := dg_e hB
  rcases di_e hB with ⟨v14, h11, z12, hB⟩ | ⟨q13, h11, z12, hB⟩
  · refine rg_call (rg_v9 (n := 0) (b := a1) (as := [.ref a1]) (ar := []) rfl rfl rfl (Nat.le_of_ble_eq_true rfl) rfl rfl (Nat.le_of_ble_eq_true rfl) (of_decide_eq_true c10)) (sF_8 z12) ?_
    refine rg_p (L' := [.ref a0, .ref a1, .ref r2, .int v14, .null, .null, .null]) rfl rfl ?_
    refine rg_bi (v := (20 : Int32)) rfl (by decide) ?_
    refine rg_p (L' := [.ref a0, .ref a1, .ref r2, .int v14, .int (20 : Int32), .null, .null]) rfl rfl ?_
    refine rg_ic (v := (1 : Int32)) rfl (by decide) ?_
    refine rg_p (L' := [.ref a0, .ref a1, .ref r2, .int v14, .int (20 : Int32), .int (1 : Int32), .null]) rfl rfl ?_
    show rg 6 29 _ _ _ _
    refine rg_bi (v := (20 : Int32)) rfl (by decide) ?_
    refine rg_p (L' := [.ref a0, .ref a1, .ref r2, .int v14, .int (20 : Int32), .int (1 : Int32), .int (20 : Int32)]) rfl rfl ?_
    exact sB_6_33 f  f _ _ _ _ _ _ _ h11 _ hB
  · subst hB
    exact rg_callX (rg_v9 (n := 0) (b := a1) (as := [.ref a1]) (ar := []) rfl rfl rfl (Nat.le_of_ble_eq_true rfl) rfl rfl (Nat.le_of_ble_eq_true rfl) (of_decide_eq_true c10)) (sF_8 z12)
-- 4: RouteHouse$Outbox.send(LRouteHouse$Packet;III)V
def B_4_93 (f : Nat) : Nat → Nat → Int32 → Int32 → Int32 → hp_T → Option ev_O
  | 0, _, _, _, _, _ => none
  | g + 1, l0, l3, l4, l8, h => (dg (decide (hp_k h l0 = some (1, 0))) (db (ev_c .ge l8 (hp_z h l0 6)) (some (.inl none, h)) (dp (hp_p h l0 3) fun r3 => (dg (aib 64 h r3 l8) (dl (wz h r3 (Int32.toNatClampNeg l8) l3) fun h6 => (dg (decide (hp_k h6 l0 = some (1, 0))) (dp (hp_p h6 l0 4) fun r9 => (dg (aib 64 h6 r9 l8) (dl (wz h6 r9 (Int32.toNatClampNeg l8) l4) fun h12 => ((B_4_93 f g) l0 l3 l4 (l8 + (1 : Int32)) h12))))))))))
theorem sB_4_93 (f : Nat) : ∀ (g : Nat) (l0 : Nat) (l3 : Int32) (l4 : Int32) (l8 : Int32) (w1 : Value) (w2 : Value) (w5 : Value) (w6 : Value) (w7 : Value) (w9 : Value) (h : hp_T) (o : ev_O), B_4_93 f g l0 l3 l4 l8 h = some o → rg 4 93 [.ref l0, w1, w2, .int l3, .int l4, w5, w6, w7, .int l8, w9] [] h o := by
  intro g
  induction g with
  | zero =>
    intro l0 l3 l4 l8 w1 w2 w5 w6 w7 w9 h o hB
    rw [B_4_93] at hB
    cases hB
  | succ g ih =>
    intro l0 l3 l4 l8 w1 w2 w5 w6 w7 w9 h o hB
    rw [B_4_93] at hB
    refine rg_p rfl rfl ?_
    refine rg_p rfl rfl ?_
    obtain ⟨c1, hB⟩ := dg_e hB
    refine rg_gz rfl rfl rfl (of_decide_eq_true c1) ?_
    rcases db_e hB with ⟨q2, hB⟩ | ⟨q2, hB⟩
    · refine rg_bt (t := 125) (pc' := 102) rfl rfl q2 ?_
      cases hB
      exact rg_rv rfl rfl
    · refine rg_bf (t := 125) (pc' := 102) rfl rfl q2 ?_
      refine rg_p rfl rfl ?_
      obtain ⟨r3, p4, hB⟩ := dp_e hB
      refine rg_gp rfl rfl rfl (of_decide_eq_true c1) p4 ?_
      refine rg_p rfl rfl ?_
      refine rg_p rfl rfl ?_
      obtain ⟨c5, hB⟩ := dg_e hB
      obtain ⟨h6, e7, hB⟩ := dl_e hB
      refine rg_is rfl (ai_of c5) e7 ?_
      show rg 4 110 _ _ _ _
      refine rg_p rfl rfl ?_
      obtain ⟨c8, hB⟩ := dg_e hB
      obtain ⟨r9, p10, hB⟩ := dp_e hB
      refine rg_gp rfl rfl rfl (of_decide_eq_true c8) p10 ?_
      refine rg_p rfl rfl ?_
      refine rg_p rfl rfl ?_
      obtain ⟨c11, hB⟩ := dg_e hB
      obtain ⟨h12, e13, hB⟩ := dl_e hB
      refine rg_is rfl (ai_of c11) e13 ?_
      refine rg_p (L' := [.ref l0, w1, w2, .int l3, .int l4, w5, w6, w7, .int (l8 + (1 : Int32)), w9]) rfl rfl ?_
      show rg 4 122 _ _ _ _
      refine rg_p (pc' := 93) rfl rfl ?_
      exact ih _ _ _ _ _ _ _ _ _ _ h12 _ hB
def B_4_89 (f : Nat) (l0 : Nat) (l3 : Int32) (l4 : Int32) (l5 : Int32) (h : hp_T) : Option ev_O := (B_4_93 f  f l0 l3 l4 l5 h)
theorem sB_4_89 (f : Nat) (l0 : Nat) (l3 : Int32) (l4 : Int32) (l5 : Int32) (w1 : Value) (w2 : Value) (w6 : Value) (w7 : Value) (w8 : Value) (w9 : Value) (h : hp_T) (o : ev_O) (hB : B_4_89 f l0 l3 l4 l5 h = some o) : rg 4 89 [.ref l0, w1, w2, .int l3, .int l4, .int l5, w6, w7, w8, w9] [] h o := by
  unfold B_4_89 at hB
  refine rg_p rfl rfl ?_
  refine rg_p (L' := [.ref l0, w1, w2, .int l3, .int l4, .int l5, w6, w7, .int l5, w9]) rfl rfl ?_
  exact sB_4_93 f  f _ _ _ _ _ _ _ _ _ _ h _ hB
def B_4_48 (f : Nat) : Nat → Nat → Nat → Int32 → Int32 → Int32 → Int32 → Int32 → Int32 → Int32 → Int32 → hp_T → Option ev_O
  | 0, _, _, _, _, _, _, _, _, _, _, _ => none
  | g + 1, l0, l1, l2, l3, l4, l5, l6, l7, l8, l9, h => (db (ev_c .ge l9 (50 : Int32)) (B_4_89 f  l0 l3 l4 l5 h) (db (ev_c .ge l7 l6) (B_4_89 f  l0 l3 l4 l5 h) (dg (decide (hp_k h l0 = some (1, 0))) (dp (hp_p h l0 5) fun r4 => (di (F_5 f l0 l1 r4 l8 l7 l6 l2 h) fun v9 h6 => ((B_4_48 f g) l0 l1 l2 l3 l4 l5 l6 (l7 + v9) l8 (l9 + (1 : Int32)) h6))))))
theorem sB_4_48 (f : Nat) : ∀ (g : Nat) (l0 : Nat) (l1 : Nat) (l2 : Int32) (l3 : Int32) (l4 : Int32) (l5 : Int32) (l6 : Int32) (l7 : Int32) (l8 : Int32) (l9 : Int32) (h : hp_T) (o : ev_O), B_4_48 f g l0 l1 l2 l3 l4 l5 l6 l7 l8 l9 h = some o → rg 4 48 [.ref l0, .ref l1, .int l2, .int l3, .int l4, .int l5, .int l6, .int l7, .int l8, .int l9] [] h o := by
  intro g
  induction g with
  | zero =>
    intro l0 l1 l2 l3 l4 l5 l6 l7 l8 l9  h o hB
    rw [B_4_48] at hB
    cases hB
  | succ g ih =>
    intro l0 l1 l2 l3 l4 l5 l6 l7 l8 l9  h o hB
    rw [B_4_48] at hB
    refine rg_p rfl rfl ?_
    refine rg_bi (v := (50 : Int32)) rfl (by decide) ?_
    rcases db_e hB with ⟨q1, hB⟩ | ⟨q1, hB⟩
    · refine rg_bt (t := 89) (pc' := 55) rfl rfl q1 ?_
      exact sB_4_89 f  _ _ _ _ _ _ _ _ _ _ h _ hB
    · refine rg_bf (t := 89) (pc' := 55) rfl rfl q1 ?_
      refine rg_p rfl rfl ?_
      refine rg_p rfl rfl ?_
      rcases db_e hB with ⟨q2, hB⟩ | ⟨q2, hB⟩
      · refine rg_bt (t := 89) (pc' := 62) rfl rfl q2 ?_
        exact sB_4_89 f  _ _ _ _ _ _ _ _ _ _ h _ hB
      · refine rg_bf (t := 89) (pc' := 62) rfl rfl q2 ?_
        refine rg_p rfl rfl ?_
        refine rg_p rfl rfl ?_
        refine rg_p rfl rfl ?_
        refine rg_p rfl rfl ?_
        obtain ⟨c3, hB⟩ := dg_e hB
        obtain ⟨r4, p5, hB⟩ := dp_e hB
        refine rg_gp rfl rfl rfl (of_decide_eq_true c3) p5 ?_
        show rg 4 70 _ _ _ _
        refine rg_p rfl rfl ?_
        refine rg_p rfl rfl ?_
        refine rg_p rfl rfl ?_
        refine rg_p rfl rfl ?_
        rcases di_e hB with ⟨v9, h6, z7, hB⟩ | ⟨q8, h6, z7, hB⟩
        · refine rg_call (rg_v9 (n := 6) (b := l0) (as := [.ref l0, .ref l1, .ref r4, .int l8, .int l7, .int l6, .int l2]) (ar := []) rfl rfl rfl (Nat.le_of_ble_eq_true rfl) rfl rfl (Nat.le_of_ble_eq_true rfl) (of_decide_eq_true c3)) (sF_5 z7) ?_
          refine rg_p rfl rfl ?_
          refine rg_p (L' := [.ref l0, .ref l1, .int l2, .int l3, .int l4, .int l5, .int l6, .int (l7 + v9), .int l8, .int l9]) rfl rfl ?_
          refine rg_p (L' := [.ref l0, .ref l1, .int l2, .int l3, .int l4, .int l5, .int l6, .int (l7 + v9), .int l8, .int (l9 + (1 : Int32))]) rfl rfl ?_
          refine rg_p (pc' := 48) rfl rfl ?_
          exact ih _ _ _ _ _ _ _ _ _ _ h6 _ hB
        · subst hB
          exact rg_callX (rg_v9 (n := 6) (b := l0) (as := [.ref l0, .ref l1, .ref r4, .int l8, .int l7, .int l6, .int l2]) (ar := []) rfl rfl rfl (Nat.le_of_ble_eq_true rfl) rfl rfl (Nat.le_of_ble_eq_true rfl) (of_decide_eq_true c3)) (sF_5 z7)
def F_4 (f : Nat) (a0 : Nat) (a1 : Nat) (a2 : Int32) (a3 : Int32) (a4 : Int32) (h : hp_T) : Option ev_O := (dg (decide (hp_k h a0 = some (1, 0))) (dg (decide (hp_k h a1 = some (2, 0))) (di (F_10 f a1 h) fun v6 h3 => (dg (decide (hp_k h3 a1 = some (2, 0))) (dp (hp_p h3 a1 0) fun r8 => (di (F_8 f a1 h3) fun v13 h10 => (dg (decide (hp_k h10 a0 = some (1, 0))) (di (F_5 f a0 a1 r8 v13 (0 : Int32) v6 a2 h10) fun v18 h15 => (db (ev_c .ge v18 v6) (B_4_89 f  a0 a3 a4 (hp_z h a0 6) h15) (dg (decide (hp_k h15 a0 = some (1, 0))) (di (F_6 f a0 a1 h15) fun v24 h21 => (B_4_48 f  f a0 a1 a2 a3 a4 (hp_z h a0 6) v6 v18 v24 (1 : Int32) h21))))))))))))
theorem sF_4 {f : Nat} {a0 : Nat} {a1 : Nat} {a2 : Int32} {a3 : Int32} {a4 : Int32} {h : hp_T} {o : ev_O} (hB : F_4 f a0 a1 a2 a3 a4 h = some o) : rm 4 [.ref a0, .ref a1, .int a2, .int a3, .int a4] h o := by
  unfold F_4 at hB
  refine rm_in (L := [.ref a0, .ref a1, .int a2, .int a3, .int a4, .null, .null, .null, .null, .null]) (Nat.le_of_ble_eq_true rfl) rfl ?_
  refine rg_p rfl rfl ?_
  obtain ⟨c1, hB⟩ := dg_e hB
  refine rg_gz rfl rfl rfl (of_decide_eq_true c1) ?_
  refine rg_p (L' := [.ref a0, .ref a1, .int a2, .int a3, .int a4, .int (hp_z h a0 6), .null, .null, .null, .null]) rfl rfl ?_
  refine rg_p rfl rfl ?_
  obtain ⟨c2, hB⟩ := dg_e hB
  rcases di_e hB with ⟨v6, h3, z4, hB⟩ | ⟨q5, h3, z4, hB⟩
  · refine rg_call (rg_v9 (n := 0) (b := a1) (as := [.ref a1]) (ar := []) rfl rfl rfl (Nat.le_of_ble_eq_true rfl) rfl rfl (Nat.le_of_ble_eq_true rfl) (of_decide_eq_true c2)) (sF_10 z4) ?_
    refine rg_p (L' := [.ref a0, .ref a1, .int a2, .int a3, .int a4, .int (hp_z h a0 6), .int v6, .null, .null, .null]) rfl rfl ?_
    refine rg_p rfl rfl ?_
    refine rg_p rfl rfl ?_
    refine rg_p rfl rfl ?_
    obtain ⟨c7, hB⟩ := dg_e hB
    obtain ⟨r8, p9, hB⟩ := dp_e hB
    refine rg_gp rfl rfl rfl (of_decide_eq_true c7) p9 ?_
    show rg 4 18 _ _ _ _
    refine rg_p rfl rfl ?_
    rcases di_e hB with ⟨v13, h10, z11, hB⟩ | ⟨q12, h10, z11, hB⟩
    · refine rg_call (rg_v9 (n := 0) (b := a1) (as := [.ref a1]) (ar := []) rfl rfl rfl (Nat.le_of_ble_eq_true rfl) rfl rfl (Nat.le_of_ble_eq_true rfl) (of_decide_eq_true c7)) (sF_8 z11) ?_
      refine rg_ic (v := (0 : Int32)) rfl (by decide) ?_
      refine rg_p rfl rfl ?_
      refine rg_p rfl rfl ?_
      obtain ⟨c14, hB⟩ := dg_e hB
      rcases di_e hB with ⟨v18, h15, z16, hB⟩ | ⟨q17, h15, z16, hB⟩
      · refine rg_call (rg_v9 (n := 6) (b := a0) (as := [.ref a0, .ref a1, .ref r8, .int v13, .int (0 : Int32), .int v6, .int a2]) (ar := []) rfl rfl rfl (Nat.le_of_ble_eq_true rfl) rfl rfl (Nat.le_of_ble_eq_true rfl) (of_decide_eq_true c14)) (sF_5 z16) ?_
        refine rg_p (L' := [.ref a0, .ref a1, .int a2, .int a3, .int a4, .int (hp_z h a0 6), .int v6, .int v18, .null, .null]) rfl rfl ?_
        refine rg_p rfl rfl ?_
        refine rg_p rfl rfl ?_
        rcases db_e hB with ⟨q19, hB⟩ | ⟨q19, hB⟩
        · refine rg_bt (t := 89) (pc' := 38) rfl rfl q19 ?_
          exact sB_4_89 f  _ _ _ _ _ _ _ _ _ _ h15 _ hB
        · refine rg_bf (t := 89) (pc' := 38) rfl rfl q19 ?_
          refine rg_p rfl rfl ?_
          refine rg_p rfl rfl ?_
          obtain ⟨c20, hB⟩ := dg_e hB
          rcases di_e hB with ⟨v24, h21, z22, hB⟩ | ⟨q23, h21, z22, hB⟩
          · refine rg_call (rg_v9 (n := 1) (b := a0) (as := [.ref a0, .ref a1]) (ar := []) rfl rfl rfl (Nat.le_of_ble_eq_true rfl) rfl rfl (Nat.le_of_ble_eq_true rfl) (of_decide_eq_true c20)) (sF_6 z22) ?_
            refine rg_p (L' := [.ref a0, .ref a1, .int a2, .int a3, .int a4, .int (hp_z h a0 6), .int v6, .int v18, .int v24, .null]) rfl rfl ?_
            refine rg_ic (v := (1 : Int32)) rfl (by decide) ?_
            refine rg_p (L' := [.ref a0, .ref a1, .int a2, .int a3, .int a4, .int (hp_z h a0 6), .int v6, .int v18, .int v24, .int (1 : Int32)]) rfl rfl ?_
            exact sB_4_48 f  f _ _ _ _ _ _ _ _ _ _ h21 _ hB
          · subst hB
            exact rg_callX (rg_v9 (n := 1) (b := a0) (as := [.ref a0, .ref a1]) (ar := []) rfl rfl rfl (Nat.le_of_ble_eq_true rfl) rfl rfl (Nat.le_of_ble_eq_true rfl) (of_decide_eq_true c20)) (sF_6 z22)
      · subst hB
        exact rg_callX (rg_v9 (n := 6) (b := a0) (as := [.ref a0, .ref a1, .ref r8, .int v13, .int (0 : Int32), .int v6, .int a2]) (ar := []) rfl rfl rfl (Nat.le_of_ble_eq_true rfl) rfl rfl (Nat.le_of_ble_eq_true rfl) (of_decide_eq_true c14)) (sF_5 z16)
    · subst hB
      exact rg_callX (rg_v9 (n := 0) (b := a1) (as := [.ref a1]) (ar := []) rfl rfl rfl (Nat.le_of_ble_eq_true rfl) rfl rfl (Nat.le_of_ble_eq_true rfl) (of_decide_eq_true c7)) (sF_8 z11)
  · subst hB
    exact rg_callX (rg_v9 (n := 0) (b := a1) (as := [.ref a1]) (ar := []) rfl rfl rfl (Nat.le_of_ble_eq_true rfl) rfl rfl (Nat.le_of_ble_eq_true rfl) (of_decide_eq_true c2)) (sF_10 z4)
-- 7: RouteHouse$Packet.<init>(I)V
def F_7 (f : Nat) (a0 : Nat) (a1 : Int32) (h : hp_T) : Option ev_O := (dg (decide (¬ a1 < 0 ∧ Int32.toNatClampNeg a1 ≤ 100000)) (dl (hp_new h 65 (Int32.toNatClampNeg a1) (Int32.toNatClampNeg a1)) fun h2 => (dg (decide (hp_k h2 a0 = some (2, 0))) (dl (hp_pw h2 a0 0 (some h.1.length)) fun h5 => (some (.inl none, h5))))))
theorem sF_7 {f : Nat} {a0 : Nat} {a1 : Int32} {h : hp_T} {o : ev_O} (hB : F_7 f a0 a1 h = some o) : rm 7 [.ref a0, .int a1] h o := by
  unfold F_7 at hB
  refine rm_in (L := [.ref a0, .int a1]) (Nat.le_of_ble_eq_true rfl) rfl ?_
  refine rg_p rfl rfl ?_
  refine rg_oi rfl rfl (Nat.le_of_ble_eq_true rfl) ?_
  refine rg_p rfl rfl ?_
  refine rg_p rfl rfl ?_
  obtain ⟨c1, hB⟩ := dg_e hB
  obtain ⟨h2, e3, hB⟩ := dl_e hB
  refine rg_na (t := 65) rfl (by decide) rfl (of_decide_eq_true c1) e3 ?_
  show rg 7 8 _ _ _ _
  obtain ⟨c4, hB⟩ := dg_e hB
  obtain ⟨h5, e6, hB⟩ := dl_e hB
  refine rg_pp rfl rfl rfl (of_decide_eq_true c4) e6 ?_
  cases hB
  exact rg_rv rfl rfl
-- 9: RouteHouse$Packet.length()I
def F_9 (f : Nat) (a0 : Nat) (h : hp_T) : Option ev_O := (dg (decide (hp_k h a0 = some (2, 0))) (dp (hp_p h a0 0) fun r2 => (di (F_119 f r2 (2 : Int32) h) fun v7 h4 => (some (.inl (some (.int v7)), h4)))))
theorem sF_9 {f : Nat} {a0 : Nat} {h : hp_T} {o : ev_O} (hB : F_9 f a0 h = some o) : rm 9 [.ref a0] h o := by
  unfold F_9 at hB
  refine rm_in (L := [.ref a0]) (Nat.le_of_ble_eq_true rfl) rfl ?_
  refine rg_p rfl rfl ?_
  obtain ⟨c1, hB⟩ := dg_e hB
  obtain ⟨r2, p3, hB⟩ := dp_e hB
  refine rg_gp rfl rfl rfl (of_decide_eq_true c1) p3 ?_
  refine rg_ic (v := (2 : Int32)) rfl (by decide) ?_
  rcases di_e hB with ⟨v7, h4, z5, hB⟩ | ⟨q6, h4, z5, hB⟩
  · refine rg_call (rg_s9 (n := 2) (as := [.ref r2, .int (2 : Int32)]) (ar := []) rfl (rg_s0 rfl) rfl rfl (Nat.le_of_ble_eq_true rfl) rfl rfl (Nat.le_of_ble_eq_true rfl)) (sF_119 z5) ?_
    cases hB
    exact rg_ri rfl rfl rfl
  · subst hB
    exact rg_callX (rg_s9 (n := 2) (as := [.ref r2, .int (2 : Int32)]) (ar := []) rfl (rg_s0 rfl) rfl rfl (Nat.le_of_ble_eq_true rfl) rfl rfl (Nat.le_of_ble_eq_true rfl)) (sF_119 z5)
-- 11: RouteHouse$Packet.identity()I
def F_11 (f : Nat) (a0 : Nat) (h : hp_T) : Option ev_O := (dg (decide (hp_k h a0 = some (2, 0))) (dp (hp_p h a0 0) fun r2 => (di (F_119 f r2 (4 : Int32) h) fun v7 h4 => (some (.inl (some (.int v7)), h4)))))
theorem sF_11 {f : Nat} {a0 : Nat} {h : hp_T} {o : ev_O} (hB : F_11 f a0 h = some o) : rm 11 [.ref a0] h o := by
  unfold F_11 at hB
  refine rm_in (L := [.ref a0]) (Nat.le_of_ble_eq_true rfl) rfl ?_
  refine rg_p rfl rfl ?_
  obtain ⟨c1, hB⟩ := dg_e hB
  obtain ⟨r2, p3, hB⟩ := dp_e hB
  refine rg_gp rfl rfl rfl (of_decide_eq_true c1) p3 ?_
  refine rg_ic (v := (4 : Int32)) rfl (by decide) ?_
  rcases di_e hB with ⟨v7, h4, z5, hB⟩ | ⟨q6, h4, z5, hB⟩
  · refine rg_call (rg_s9 (n := 2) (as := [.ref r2, .int (4 : Int32)]) (ar := []) rfl (rg_s0 rfl) rfl rfl (Nat.le_of_ble_eq_true rfl) rfl rfl (Nat.le_of_ble_eq_true rfl)) (sF_119 z5) ?_
    cases hB
    exact rg_ri rfl rfl rfl
  · subst hB
    exact rg_callX (rg_s9 (n := 2) (as := [.ref r2, .int (4 : Int32)]) (ar := []) rfl (rg_s0 rfl) rfl rfl (Nat.le_of_ble_eq_true rfl) rfl rfl (Nat.le_of_ble_eq_true rfl)) (sF_119 z5)
-- 12: RouteHouse$Packet.isUncut()Z
def B_12_21 (f : Nat) (s0 : Int32) (h : hp_T) : Option ev_O := (dg (dzb s0) (some (.inl (some (.int s0)), h)))
theorem sB_12_21 (f : Nat) (s0 : Int32) (w0 : Value) (h : hp_T) (o : ev_O) (hB : B_12_21 f s0 h = some o) : rg 12 21 [w0] [.int s0] h o := by
  unfold B_12_21 at hB
  obtain ⟨c1, hB⟩ := dg_e hB
  cases hB
  exact rg_ri rfl rfl (dz_n (dz_of c1))
def F_12 (f : Nat) (a0 : Nat) (h : hp_T) : Option ev_O := (dg (decide (hp_k h a0 = some (2, 0))) (dp (hp_p h a0 0) fun r2 => (di (F_119 f r2 (6 : Int32) h) fun v7 h4 => (db (ev_c .eq (v7 &&& (16384 : Int32)) 0) (B_12_21 f  (0 : Int32) h4) (B_12_21 f  (1 : Int32) h4)))))
theorem sF_12 {f : Nat} {a0 : Nat} {h : hp_T} {o : ev_O} (hB : F_12 f a0 h = some o) : rm 12 [.ref a0] h o := by
  unfold F_12 at hB
  refine rm_in (L := [.ref a0]) (Nat.le_of_ble_eq_true rfl) rfl ?_
  refine rg_p rfl rfl ?_
  obtain ⟨c1, hB⟩ := dg_e hB
  obtain ⟨r2, p3, hB⟩ := dp_e hB
  refine rg_gp rfl rfl rfl (of_decide_eq_true c1) p3 ?_
  refine rg_bi (v := (6 : Int32)) rfl (by decide) ?_
  rcases di_e hB with ⟨v7, h4, z5, hB⟩ | ⟨q6, h4, z5, hB⟩
  · refine rg_call (rg_s9 (n := 2) (as := [.ref r2, .int (6 : Int32)]) (ar := []) rfl (rg_s0 rfl) rfl rfl (Nat.le_of_ble_eq_true rfl) rfl rfl (Nat.le_of_ble_eq_true rfl)) (sF_119 z5) ?_
    refine rg_si (v := (16384 : Int32)) rfl (by decide) ?_
    refine rg_p rfl rfl ?_
    rcases db_e hB with ⟨q8, hB⟩ | ⟨q8, hB⟩
    · refine rg_bt (t := 20) (pc' := 16) rfl rfl q8 ?_
      refine rg_ic (v := (0 : Int32)) rfl (by decide) ?_
      exact sB_12_21 f  _ _ h4 _ hB
    · refine rg_bf (t := 20) (pc' := 16) rfl rfl q8 ?_
      refine rg_ic (v := (1 : Int32)) rfl (by decide) ?_
      refine rg_p (pc' := 21) rfl rfl ?_
      exact sB_12_21 f  _ _ h4 _ hB
  · subst hB
    exact rg_callX (rg_s9 (n := 2) (as := [.ref r2, .int (6 : Int32)]) (ar := []) rfl (rg_s0 rfl) rfl rfl (Nat.le_of_ble_eq_true rfl) rfl rfl (Nat.le_of_ble_eq_true rfl)) (sF_119 z5)
-- 13: RouteHouse$Packet.hasMore()Z
def B_13_21 (f : Nat) (s0 : Int32) (h : hp_T) : Option ev_O := (dg (dzb s0) (some (.inl (some (.int s0)), h)))
theorem sB_13_21 (f : Nat) (s0 : Int32) (w0 : Value) (h : hp_T) (o : ev_O) (hB : B_13_21 f s0 h = some o) : rg 13 21 [w0] [.int s0] h o := by
  unfold B_13_21 at hB
  obtain ⟨c1, hB⟩ := dg_e hB
  cases hB
  exact rg_ri rfl rfl (dz_n (dz_of c1))
def F_13 (f : Nat) (a0 : Nat) (h : hp_T) : Option ev_O := (dg (decide (hp_k h a0 = some (2, 0))) (dp (hp_p h a0 0) fun r2 => (di (F_119 f r2 (6 : Int32) h) fun v7 h4 => (db (ev_c .eq (v7 &&& (8192 : Int32)) 0) (B_13_21 f  (0 : Int32) h4) (B_13_21 f  (1 : Int32) h4)))))
theorem sF_13 {f : Nat} {a0 : Nat} {h : hp_T} {o : ev_O} (hB : F_13 f a0 h = some o) : rm 13 [.ref a0] h o := by
  unfold F_13 at hB
  refine rm_in (L := [.ref a0]) (Nat.le_of_ble_eq_true rfl) rfl ?_
  refine rg_p rfl rfl ?_
  obtain ⟨c1, hB⟩ := dg_e hB
  obtain ⟨r2, p3, hB⟩ := dp_e hB
  refine rg_gp rfl rfl rfl (of_decide_eq_true c1) p3 ?_
  refine rg_bi (v := (6 : Int32)) rfl (by decide) ?_
  rcases di_e hB with ⟨v7, h4, z5, hB⟩ | ⟨q6, h4, z5, hB⟩
  · refine rg_call (rg_s9 (n := 2) (as := [.ref r2, .int (6 : Int32)]) (ar := []) rfl (rg_s0 rfl) rfl rfl (Nat.le_of_ble_eq_true rfl) rfl rfl (Nat.le_of_ble_eq_true rfl)) (sF_119 z5) ?_
    refine rg_si (v := (8192 : Int32)) rfl (by decide) ?_
    refine rg_p rfl rfl ?_
    rcases db_e hB with ⟨q8, hB⟩ | ⟨q8, hB⟩
    · refine rg_bt (t := 20) (pc' := 16) rfl rfl q8 ?_
      refine rg_ic (v := (0 : Int32)) rfl (by decide) ?_
      exact sB_13_21 f  _ _ h4 _ hB
    · refine rg_bf (t := 20) (pc' := 16) rfl rfl q8 ?_
      refine rg_ic (v := (1 : Int32)) rfl (by decide) ?_
      refine rg_p (pc' := 21) rfl rfl ?_
      exact sB_13_21 f  _ _ h4 _ hB
  · subst hB
    exact rg_callX (rg_s9 (n := 2) (as := [.ref r2, .int (6 : Int32)]) (ar := []) rfl (rg_s0 rfl) rfl rfl (Nat.le_of_ble_eq_true rfl) rfl rfl (Nat.le_of_ble_eq_true rfl)) (sF_119 z5)
-- 14: RouteHouse$Packet.isPiece()Z
def B_14_21 (f : Nat) (s0 : Int32) (h : hp_T) : Option ev_O := (dg (dzb s0) (some (.inl (some (.int s0)), h)))
theorem sB_14_21 (f : Nat) (s0 : Int32) (w0 : Value) (h : hp_T) (o : ev_O) (hB : B_14_21 f s0 h = some o) : rg 14 21 [w0] [.int s0] h o := by
  unfold B_14_21 at hB
  obtain ⟨c1, hB⟩ := dg_e hB
  cases hB
  exact rg_ri rfl rfl (dz_n (dz_of c1))
def F_14 (f : Nat) (a0 : Nat) (h : hp_T) : Option ev_O := (dg (decide (hp_k h a0 = some (2, 0))) (dp (hp_p h a0 0) fun r2 => (di (F_119 f r2 (6 : Int32) h) fun v7 h4 => (db (ev_c .eq (v7 &&& (16383 : Int32)) 0) (B_14_21 f  (0 : Int32) h4) (B_14_21 f  (1 : Int32) h4)))))
theorem sF_14 {f : Nat} {a0 : Nat} {h : hp_T} {o : ev_O} (hB : F_14 f a0 h = some o) : rm 14 [.ref a0] h o := by
  unfold F_14 at hB
  refine rm_in (L := [.ref a0]) (Nat.le_of_ble_eq_true rfl) rfl ?_
  refine rg_p rfl rfl ?_
  obtain ⟨c1, hB⟩ := dg_e hB
  obtain ⟨r2, p3, hB⟩ := dp_e hB
  refine rg_gp rfl rfl rfl (of_decide_eq_true c1) p3 ?_
  refine rg_bi (v := (6 : Int32)) rfl (by decide) ?_
  rcases di_e hB with ⟨v7, h4, z5, hB⟩ | ⟨q6, h4, z5, hB⟩
  · refine rg_call (rg_s9 (n := 2) (as := [.ref r2, .int (6 : Int32)]) (ar := []) rfl (rg_s0 rfl) rfl rfl (Nat.le_of_ble_eq_true rfl) rfl rfl (Nat.le_of_ble_eq_true rfl)) (sF_119 z5) ?_
    refine rg_si (v := (16383 : Int32)) rfl (by decide) ?_
    refine rg_p rfl rfl ?_
    rcases db_e hB with ⟨q8, hB⟩ | ⟨q8, hB⟩
    · refine rg_bt (t := 20) (pc' := 16) rfl rfl q8 ?_
      refine rg_ic (v := (0 : Int32)) rfl (by decide) ?_
      exact sB_14_21 f  _ _ h4 _ hB
    · refine rg_bf (t := 20) (pc' := 16) rfl rfl q8 ?_
      refine rg_ic (v := (1 : Int32)) rfl (by decide) ?_
      refine rg_p (pc' := 21) rfl rfl ?_
      exact sB_14_21 f  _ _ h4 _ hB
  · subst hB
    exact rg_callX (rg_s9 (n := 2) (as := [.ref r2, .int (6 : Int32)]) (ar := []) rfl (rg_s0 rfl) rfl rfl (Nat.le_of_ble_eq_true rfl) rfl rfl (Nat.le_of_ble_eq_true rfl)) (sF_119 z5)
-- 15: RouteHouse$Packet.dataStart()I
def F_15 (f : Nat) (a0 : Nat) (h : hp_T) : Option ev_O := (dg (decide (hp_k h a0 = some (2, 0))) (dp (hp_p h a0 0) fun r2 => (di (F_119 f r2 (6 : Int32) h) fun v7 h4 => (some (.inl (some (.int ((v7 &&& (8191 : Int32)) * (8 : Int32)))), h4)))))
theorem sF_15 {f : Nat} {a0 : Nat} {h : hp_T} {o : ev_O} (hB : F_15 f a0 h = some o) : rm 15 [.ref a0] h o := by
  unfold F_15 at hB
  refine rm_in (L := [.ref a0]) (Nat.le_of_ble_eq_true rfl) rfl ?_
  refine rg_p rfl rfl ?_
  obtain ⟨c1, hB⟩ := dg_e hB
  obtain ⟨r2, p3, hB⟩ := dp_e hB
  refine rg_gp rfl rfl rfl (of_decide_eq_true c1) p3 ?_
  refine rg_bi (v := (6 : Int32)) rfl (by decide) ?_
  rcases di_e hB with ⟨v7, h4, z5, hB⟩ | ⟨q6, h4, z5, hB⟩
  · refine rg_call (rg_s9 (n := 2) (as := [.ref r2, .int (6 : Int32)]) (ar := []) rfl (rg_s0 rfl) rfl rfl (Nat.le_of_ble_eq_true rfl) rfl rfl (Nat.le_of_ble_eq_true rfl)) (sF_119 z5) ?_
    refine rg_si (v := (8191 : Int32)) rfl (by decide) ?_
    refine rg_p rfl rfl ?_
    refine rg_bi (v := (8 : Int32)) rfl (by decide) ?_
    refine rg_p rfl rfl ?_
    cases hB
    exact rg_ri rfl rfl rfl
  · subst hB
    exact rg_callX (rg_s9 (n := 2) (as := [.ref r2, .int (6 : Int32)]) (ar := []) rfl (rg_s0 rfl) rfl rfl (Nat.le_of_ble_eq_true rfl) rfl rfl (Nat.le_of_ble_eq_true rfl)) (sF_119 z5)
-- 16: RouteHouse$Packet.hops()I
def F_16 (f : Nat) (a0 : Nat) (h : hp_T) : Option ev_O := (dg (decide (hp_k h a0 = some (2, 0))) (dp (hp_p h a0 0) fun r2 => (dg (aib 65 h r2 (8 : Int32)) (some (.inl (some (.int ((hp_z h r2 (Int32.toNatClampNeg (8 : Int32))) &&& (255 : Int32)))), h)))))
theorem sF_16 {f : Nat} {a0 : Nat} {h : hp_T} {o : ev_O} (hB : F_16 f a0 h = some o) : rm 16 [.ref a0] h o := by
  unfold F_16 at hB
  refine rm_in (L := [.ref a0]) (Nat.le_of_ble_eq_true rfl) rfl ?_
  refine rg_p rfl rfl ?_
  obtain ⟨c1, hB⟩ := dg_e hB
  obtain ⟨r2, p3, hB⟩ := dp_e hB
  refine rg_gp rfl rfl rfl (of_decide_eq_true c1) p3 ?_
  refine rg_bi (v := (8 : Int32)) rfl (by decide) ?_
  obtain ⟨c4, hB⟩ := dg_e hB
  refine rg_ba (t := 65) (by decide) rfl (ai_of c4) ?_
  refine rg_si (v := (255 : Int32)) rfl (by decide) ?_
  show rg 16 10 _ _ _ _
  refine rg_p rfl rfl ?_
  cases hB
  exact rg_ri rfl rfl rfl
-- 17: RouteHouse$Packet.protocol()I
def F_17 (f : Nat) (a0 : Nat) (h : hp_T) : Option ev_O := (dg (decide (hp_k h a0 = some (2, 0))) (dp (hp_p h a0 0) fun r2 => (dg (aib 65 h r2 (9 : Int32)) (some (.inl (some (.int ((hp_z h r2 (Int32.toNatClampNeg (9 : Int32))) &&& (255 : Int32)))), h)))))
theorem sF_17 {f : Nat} {a0 : Nat} {h : hp_T} {o : ev_O} (hB : F_17 f a0 h = some o) : rm 17 [.ref a0] h o := by
  unfold F_17 at hB
  refine rm_in (L := [.ref a0]) (Nat.le_of_ble_eq_true rfl) rfl ?_
  refine rg_p rfl rfl ?_
  obtain ⟨c1, hB⟩ := dg_e hB
  obtain ⟨r2, p3, hB⟩ := dp_e hB
  refine rg_gp rfl rfl rfl (of_decide_eq_true c1) p3 ?_
  refine rg_bi (v := (9 : Int32)) rfl (by decide) ?_
  obtain ⟨c4, hB⟩ := dg_e hB
  refine rg_ba (t := 65) (by decide) rfl (ai_of c4) ?_
  refine rg_si (v := (255 : Int32)) rfl (by decide) ?_
  show rg 17 10 _ _ _ _
  refine rg_p rfl rfl ?_
  cases hB
  exact rg_ri rfl rfl rfl
-- 20: RouteHouse$Packet.headerFault()I
def B_20_133 (f : Nat) (h : hp_T) : Option ev_O := (some (.inl (some (.int (6 : Int32))), h))
theorem sB_20_133 (f : Nat) (w0 : Value) (w1 : Value) (w2 : Value) (w3 : Value) (h : hp_T) (o : ev_O) (hB : B_20_133 f  h = some o) : rg 20 133 [w0, w1, w2, w3] [] h o := by
  unfold B_20_133 at hB
  refine rg_bi (v := (6 : Int32)) rfl (by decide) ?_
  cases hB
  exact rg_ri rfl rfl rfl
def B_20_67 (f : Nat) (h : hp_T) : Option ev_O := (some (.inl (some (.int (4 : Int32))), h))
theorem sB_20_67 (f : Nat) (w0 : Value) (w1 : Value) (w2 : Value) (w3 : Value) (h : hp_T) (o : ev_O) (hB : B_20_67 f  h = some o) : rg 20 67 [w0, w1, w2, w3] [] h o := by
  unfold B_20_67 at hB
  refine rg_ic (v := (4 : Int32)) rfl (by decide) ?_
  cases hB
  exact rg_ri rfl rfl rfl
def B_20_47 (f : Nat) (h : hp_T) : Option ev_O := (some (.inl (some (.int (3 : Int32))), h))
theorem sB_20_47 (f : Nat) (w0 : Value) (w1 : Value) (w2 : Value) (w3 : Value) (h : hp_T) (o : ev_O) (hB : B_20_47 f  h = some o) : rg 20 47 [w0, w1, w2, w3] [] h o := by
  unfold B_20_47 at hB
  refine rg_ic (v := (3 : Int32)) rfl (by decide) ?_
  cases hB
  exact rg_ri rfl rfl rfl
def F_20 (f : Nat) (a0 : Nat) (h : hp_T) : Option ev_O := (dg (decide (hp_k h a0 = some (2, 0))) (db (ev_c .ge (hp_z h a0 1) (20 : Int32)) (dp (hp_p h a0 0) fun r3 => (dg (aib 65 h r3 (0 : Int32)) (db (ev_c .eq ((hp_z h r3 (Int32.toNatClampNeg (0 : Int32))) &&& (240 : Int32)) (64 : Int32)) (di (F_8 f a0 h) fun v10 h7 => (db (ev_c .lt v10 (20 : Int32)) (B_20_47 f   h7) (dg (decide (hp_k h7 a0 = some (2, 0))) (db (ev_c .le v10 (hp_z h7 a0 1)) (di (F_9 f a0 h7) fun v17 h14 => (db (ev_c .lt v17 v10) (B_20_67 f   h14) (dg (decide (hp_k h14 a0 = some (2, 0))) (db (ev_c .le v17 (hp_z h14 a0 1)) (dp (hp_p h14 a0 0) fun r21 => (di (F_123 f r21 (0 : Int32) v10 (10 : Int32) h14) fun v26 h23 => (dg (decide (hp_k h23 a0 = some (2, 0))) (dp (hp_p h23 a0 0) fun r28 => (di (F_119 f r28 (10 : Int32) h23) fun v33 h30 => (db (ev_c .eq v26 v33) (dg (decide (hp_k h30 a0 = some (2, 0))) (dp (hp_p h30 a0 0) fun r36 => (dg (aib 65 h30 r36 (12 : Int32)) (db (ev_c .eq ((hp_z h30 r36 (Int32.toNatClampNeg (12 : Int32))) &&& (255 : Int32)) (127 : Int32)) (B_20_133 f   h30) (db (ev_c .gt ((hp_z h30 r36 (Int32.toNatClampNeg (12 : Int32))) &&& (255 : Int32)) (223 : Int32)) (B_20_133 f   h30) (di (F_15 f a0 h30) fun v44 h41 => (dg (decide (hp_k h41 a0 = some (2, 0))) (di (F_10 f a0 h41) fun v49 h46 => (db (ev_c .le (v44 + v49) (65535 : Int32)) (some (.inl (some (.int (0 : Int32))), h46)) (B_20_133 f   h46)))))))))) (some (.inl (some (.int (5 : Int32))), h30)))))))) (B_20_67 f   h14))))) (B_20_47 f   h7))))) (some (.inl (some (.int (2 : Int32))), h))))) (some (.inl (some (.int (1 : Int32))), h))))
theorem sF_20 {f : Nat} {a0 : Nat} {h : hp_T} {o : ev_O} (hB : F_20 f a0 h = some o) : rm 20 [.ref a0] h o := by
  unfold F_20 at hB
  refine rm_in (L := [.ref a0, .null, .null, .null]) (Nat.le_of_ble_eq_true rfl) rfl ?_
  refine rg_p rfl rfl ?_
  obtain ⟨c1, hB⟩ := dg_e hB
  refine rg_gz rfl rfl rfl (of_decide_eq_true c1) ?_
  refine rg_bi (v := (20 : Int32)) rfl (by decide) ?_
  rcases db_e hB with ⟨q2, hB⟩ | ⟨q2, hB⟩
  · refine rg_bt (t := 11) (pc' := 9) rfl rfl q2 ?_
    refine rg_p rfl rfl ?_
    obtain ⟨r3, p4, hB⟩ := dp_e hB
    refine rg_gp rfl rfl rfl (of_decide_eq_true c1) p4 ?_
    refine rg_ic (v := (0 : Int32)) rfl (by decide) ?_
    obtain ⟨c5, hB⟩ := dg_e hB
    refine rg_ba (t := 65) (by decide) rfl (ai_of c5) ?_
    refine rg_si (v := (240 : Int32)) rfl (by decide) ?_
    show rg 20 20 _ _ _ _
    refine rg_p rfl rfl ?_
    refine rg_bi (v := (64 : Int32)) rfl (by decide) ?_
    rcases db_e hB with ⟨q6, hB⟩ | ⟨q6, hB⟩
    · refine rg_bt (t := 28) (pc' := 26) rfl rfl q6 ?_
      refine rg_p rfl rfl ?_
      rcases di_e hB with ⟨v10, h7, z8, hB⟩ | ⟨q9, h7, z8, hB⟩
      · refine rg_call (rg_v9 (n := 0) (b := a0) (as := [.ref a0]) (ar := []) rfl rfl rfl (Nat.le_of_ble_eq_true rfl) rfl rfl (Nat.le_of_ble_eq_true rfl) (of_decide_eq_true c1)) (sF_8 z8) ?_
        refine rg_p (L' := [.ref a0, .int v10, .null, .null]) rfl rfl ?_
        refine rg_p rfl rfl ?_
        refine rg_bi (v := (20 : Int32)) rfl (by decide) ?_
        rcases db_e hB with ⟨q11, hB⟩ | ⟨q11, hB⟩
        · refine rg_bt (t := 47) (pc' := 39) rfl rfl q11 ?_
          exact sB_20_47 f  _ _ _ _ h7 _ hB
        · refine rg_bf (t := 47) (pc' := 39) rfl rfl q11 ?_
          refine rg_p rfl rfl ?_
          refine rg_p rfl rfl ?_
          obtain ⟨c12, hB⟩ := dg_e hB
          refine rg_gz rfl rfl rfl (of_decide_eq_true c12) ?_
          rcases db_e hB with ⟨q13, hB⟩ | ⟨q13, hB⟩
          · refine rg_bt (t := 49) (pc' := 47) rfl rfl q13 ?_
            refine rg_p rfl rfl ?_
            rcases di_e hB with ⟨v17, h14, z15, hB⟩ | ⟨q16, h14, z15, hB⟩
            · refine rg_call (rg_v9 (n := 0) (b := a0) (as := [.ref a0]) (ar := []) rfl rfl rfl (Nat.le_of_ble_eq_true rfl) rfl rfl (Nat.le_of_ble_eq_true rfl) (of_decide_eq_true c12)) (sF_9 z15) ?_
              refine rg_p (L' := [.ref a0, .int v10, .int v17, .null]) rfl rfl ?_
              refine rg_p rfl rfl ?_
              refine rg_p rfl rfl ?_
              rcases db_e hB with ⟨q18, hB⟩ | ⟨q18, hB⟩
              · refine rg_bt (t := 67) (pc' := 59) rfl rfl q18 ?_
                exact sB_20_67 f  _ _ _ _ h14 _ hB
              · refine rg_bf (t := 67) (pc' := 59) rfl rfl q18 ?_
                refine rg_p rfl rfl ?_
                refine rg_p rfl rfl ?_
                obtain ⟨c19, hB⟩ := dg_e hB
                refine rg_gz rfl rfl rfl (of_decide_eq_true c19) ?_
                rcases db_e hB with ⟨q20, hB⟩ | ⟨q20, hB⟩
                · refine rg_bt (t := 69) (pc' := 67) rfl rfl q20 ?_
                  refine rg_p rfl rfl ?_
                  obtain ⟨r21, p22, hB⟩ := dp_e hB
                  refine rg_gp rfl rfl rfl (of_decide_eq_true c19) p22 ?_
                  refine rg_ic (v := (0 : Int32)) rfl (by decide) ?_
                  refine rg_p rfl rfl ?_
                  refine rg_bi (v := (10 : Int32)) rfl (by decide) ?_
                  show rg 20 77 _ _ _ _
                  rcases di_e hB with ⟨v26, h23, z24, hB⟩ | ⟨q25, h23, z24, hB⟩
                  · refine rg_call (rg_s9 (n := 4) (as := [.ref r21, .int (0 : Int32), .int v10, .int (10 : Int32)]) (ar := []) rfl (rg_s0 rfl) rfl rfl (Nat.le_of_ble_eq_true rfl) rfl rfl (Nat.le_of_ble_eq_true rfl)) (sF_123 z24) ?_
                    refine rg_p rfl rfl ?_
                    obtain ⟨c27, hB⟩ := dg_e hB
                    obtain ⟨r28, p29, hB⟩ := dp_e hB
                    refine rg_gp rfl rfl rfl (of_decide_eq_true c27) p29 ?_
                    refine rg_bi (v := (10 : Int32)) rfl (by decide) ?_
                    rcases di_e hB with ⟨v33, h30, z31, hB⟩ | ⟨q32, h30, z31, hB⟩
                    · refine rg_call (rg_s9 (n := 2) (as := [.ref r28, .int (10 : Int32)]) (ar := []) rfl (rg_s0 rfl) rfl rfl (Nat.le_of_ble_eq_true rfl) rfl rfl (Nat.le_of_ble_eq_true rfl)) (sF_119 z31) ?_
                      rcases db_e hB with ⟨q34, hB⟩ | ⟨q34, hB⟩
                      · refine rg_bt (t := 94) (pc' := 92) rfl rfl q34 ?_
                        refine rg_p rfl rfl ?_
                        obtain ⟨c35, hB⟩ := dg_e hB
                        obtain ⟨r36, p37, hB⟩ := dp_e hB
                        refine rg_gp rfl rfl rfl (of_decide_eq_true c35) p37 ?_
                        refine rg_bi (v := (12 : Int32)) rfl (by decide) ?_
                        obtain ⟨c38, hB⟩ := dg_e hB
                        refine rg_ba (t := 65) (by decide) rfl (ai_of c38) ?_
                        refine rg_si (v := (255 : Int32)) rfl (by decide) ?_
                        show rg 20 104 _ _ _ _
                        refine rg_p rfl rfl ?_
                        refine rg_p (L' := [.ref a0, .int v10, .int v17, .int ((hp_z h30 r36 (Int32.toNatClampNeg (12 : Int32))) &&& (255 : Int32))]) rfl rfl ?_
                        refine rg_p rfl rfl ?_
                        refine rg_bi (v := (127 : Int32)) rfl (by decide) ?_
                        rcases db_e hB with ⟨q39, hB⟩ | ⟨q39, hB⟩
                        · refine rg_bt (t := 133) (pc' := 112) rfl rfl q39 ?_
                          exact sB_20_133 f  _ _ _ _ h30 _ hB
                        · refine rg_bf (t := 133) (pc' := 112) rfl rfl q39 ?_
                          refine rg_p rfl rfl ?_
                          refine rg_si (v := (223 : Int32)) rfl (by decide) ?_
                          rcases db_e hB with ⟨q40, hB⟩ | ⟨q40, hB⟩
                          · refine rg_bt (t := 133) (pc' := 119) rfl rfl q40 ?_
                            exact sB_20_133 f  _ _ _ _ h30 _ hB
                          · refine rg_bf (t := 133) (pc' := 119) rfl rfl q40 ?_
                            refine rg_p rfl rfl ?_
                            rcases di_e hB with ⟨v44, h41, z42, hB⟩ | ⟨q43, h41, z42, hB⟩
                            · refine rg_call (rg_v9 (n := 0) (b := a0) (as := [.ref a0]) (ar := []) rfl rfl rfl (Nat.le_of_ble_eq_true rfl) rfl rfl (Nat.le_of_ble_eq_true rfl) (of_decide_eq_true c35)) (sF_15 z42) ?_
                              refine rg_p rfl rfl ?_
                              obtain ⟨c45, hB⟩ := dg_e hB
                              rcases di_e hB with ⟨v49, h46, z47, hB⟩ | ⟨q48, h46, z47, hB⟩
                              · refine rg_call (rg_v9 (n := 0) (b := a0) (as := [.ref a0]) (ar := []) rfl rfl rfl (Nat.le_of_ble_eq_true rfl) rfl rfl (Nat.le_of_ble_eq_true rfl) (of_decide_eq_true c45)) (sF_10 z47) ?_
                                refine rg_p rfl rfl ?_
                                refine rg_ld (v := (65535 : Int32)) rfl rfl ?_
                                rcases db_e hB with ⟨q50, hB⟩ | ⟨q50, hB⟩
                                · refine rg_bt (t := 136) (pc' := 133) rfl rfl q50 ?_
                                  refine rg_ic (v := (0 : Int32)) rfl (by decide) ?_
                                  cases hB
                                  exact rg_ri rfl rfl rfl
                                · refine rg_bf (t := 136) (pc' := 133) rfl rfl q50 ?_
                                  exact sB_20_133 f  _ _ _ _ h46 _ hB
                              · subst hB
                                exact rg_callX (rg_v9 (n := 0) (b := a0) (as := [.ref a0]) (ar := []) rfl rfl rfl (Nat.le_of_ble_eq_true rfl) rfl rfl (Nat.le_of_ble_eq_true rfl) (of_decide_eq_true c45)) (sF_10 z47)
                            · subst hB
                              exact rg_callX (rg_v9 (n := 0) (b := a0) (as := [.ref a0]) (ar := []) rfl rfl rfl (Nat.le_of_ble_eq_true rfl) rfl rfl (Nat.le_of_ble_eq_true rfl) (of_decide_eq_true c35)) (sF_15 z42)
                      · refine rg_bf (t := 94) (pc' := 92) rfl rfl q34 ?_
                        refine rg_ic (v := (5 : Int32)) rfl (by decide) ?_
                        cases hB
                        exact rg_ri rfl rfl rfl
                    · subst hB
                      exact rg_callX (rg_s9 (n := 2) (as := [.ref r28, .int (10 : Int32)]) (ar := []) rfl (rg_s0 rfl) rfl rfl (Nat.le_of_ble_eq_true rfl) rfl rfl (Nat.le_of_ble_eq_true rfl)) (sF_119 z31)
                  · subst hB
                    exact rg_callX (rg_s9 (n := 4) (as := [.ref r21, .int (0 : Int32), .int v10, .int (10 : Int32)]) (ar := []) rfl (rg_s0 rfl) rfl rfl (Nat.le_of_ble_eq_true rfl) rfl rfl (Nat.le_of_ble_eq_true rfl)) (sF_123 z24)
                · refine rg_bf (t := 69) (pc' := 67) rfl rfl q20 ?_
                  exact sB_20_67 f  _ _ _ _ h14 _ hB
            · subst hB
              exact rg_callX (rg_v9 (n := 0) (b := a0) (as := [.ref a0]) (ar := []) rfl rfl rfl (Nat.le_of_ble_eq_true rfl) rfl rfl (Nat.le_of_ble_eq_true rfl) (of_decide_eq_true c12)) (sF_9 z15)
          · refine rg_bf (t := 49) (pc' := 47) rfl rfl q13 ?_
            exact sB_20_47 f  _ _ _ _ h7 _ hB
      · subst hB
        exact rg_callX (rg_v9 (n := 0) (b := a0) (as := [.ref a0]) (ar := []) rfl rfl rfl (Nat.le_of_ble_eq_true rfl) rfl rfl (Nat.le_of_ble_eq_true rfl) (of_decide_eq_true c1)) (sF_8 z8)
    · refine rg_bf (t := 28) (pc' := 26) rfl rfl q6 ?_
      refine rg_ic (v := (2 : Int32)) rfl (by decide) ?_
      cases hB
      exact rg_ri rfl rfl rfl
  · refine rg_bf (t := 11) (pc' := 9) rfl rfl q2 ?_
    refine rg_ic (v := (1 : Int32)) rfl (by decide) ?_
    cases hB
    exact rg_ri rfl rfl rfl
