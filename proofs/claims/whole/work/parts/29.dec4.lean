-- 69: RouteHouse.sendError(LRouteHouse$Packet;IIII)V
def B_69_26 (f : Nat) (h : hp_T) : Option ev_O := (some (.inl none, h))
theorem sB_69_26 (f : Nat) (w0 : Value) (w1 : Value) (w2 : Value) (w3 : Value) (w4 : Value) (w5 : Value) (w6 : Value) (h : hp_T) (o : ev_O) (hB : B_69_26 f  h = some o) : rg 69 26 [w0, w1, w2, w3, w4, w5, w6] [] h o := by
  unfold B_69_26 at hB
  cases hB
  exact rg_rv rfl rfl
def F_69 (f : Nat) (a0 : Nat) (a1 : Nat) (a2 : Int32) (a3 : Int32) (a4 : Int32) (a5 : Int32) (h : hp_T) : Option ev_O := (dg (decide (hp_k h a0 = some (7, 0))) (dp (hp_p h a0 0) fun r2 => (dg (aib 103 h r2 a2) (dp (hp_p h r2 (Int32.toNatClampNeg a2)) fun r5 => (dg (decide (hp_k h r5 = some (3, 0))) (db (ev_c .eq (hp_z h r5 2) 0) (B_69_26 f   h) (db (ev_c .eq (hp_z h a0 8) 0) (B_69_26 f   h) (dg (decide (hp_k h a1 = some (2, 0))) (di (F_24 f a1 h) fun v14 h11 => (db (ev_c .ne v14 0) (dg (decide (hp_k h11 a0 = some (7, 0))) (dl (wz h11 a0 8 ((hp_z h11 a0 8) - (1 : Int32))) fun h17 => (dg (decide (hp_k h17 a1 = some (2, 0))) (di (F_8 f a1 h17) fun v23 h20 => (dg (decide (hp_k h20 a1 = some (2, 0))) (di (F_10 f a1 h20) fun v28 h25 => (dg (decide (hp_k h25 a0 = some (7, 0))) (dp (hp_p h25 a0 4) fun r30 => (dg (decide (hp_k h25 r30 = some (2, 0))) (dp (hp_p h25 r30 0) fun r33 => (dv (F_122 f r33 (20 : Int32) ((a3 <<< ((24 : Int32) &&& 31)) ||| (a4 <<< ((16 : Int32) &&& 31))) h25) fun h35 => (dg (decide (hp_k h35 a0 = some (7, 0))) (dp (hp_p h35 a0 4) fun r39 => (dg (decide (hp_k h35 r39 = some (2, 0))) (dp (hp_p h35 r39 0) fun r42 => (dv (F_122 f r42 (24 : Int32) a5 h35) fun h44 => (dg (decide (hp_k h44 a1 = some (2, 0))) (dp (hp_p h44 a1 0) fun r48 => (dg (decide (hp_k h44 a0 = some (7, 0))) (dp (hp_p h44 a0 4) fun r51 => (dg (decide (hp_k h44 r51 = some (2, 0))) (dp (hp_p h44 r51 0) fun r54 => (dg (acb 65 h44 r48 (0 : Int32) r54 (28 : Int32) (v23 + (if v28 < (8 : Int32) then v28 else (8 : Int32)))) (dl (wc h44 r48 (0 : Int32) r54 (28 : Int32) (v23 + (if v28 < (8 : Int32) then v28 else (8 : Int32)))) fun h57 => (dg (decide (hp_k h57 a0 = some (7, 0))) (dp (hp_p h57 a0 0) fun r60 => (dg (aib 103 h57 r60 a2) (dp (hp_p h57 r60 (Int32.toNatClampNeg a2)) fun r63 => (dg (decide (hp_k h57 r63 = some (3, 0))) (dg (decide (hp_k h57 a1 = some (2, 0))) (di (F_18 f a1 h57) fun v70 h67 => (dg (decide (hp_k h67 a0 = some (7, 0))) (dv (F_71 f a0 ((8 : Int32) + (v23 + (if v28 < (8 : Int32) then v28 else (8 : Int32)))) a2 (hp_z h57 r63 0) v70 h67) fun h72 => (some (.inl none, h72))))))))))))))))))))))))))))))))))) (B_69_26 f   h11)))))))))))
theorem sF_69 {f : Nat} {a0 : Nat} {a1 : Nat} {a2 : Int32} {a3 : Int32} {a4 : Int32} {a5 : Int32} {h : hp_T} {o : ev_O} (hB : F_69 f a0 a1 a2 a3 a4 a5 h = some o) : rm 69 [.ref a0, .ref a1, .int a2, .int a3, .int a4, .int a5] h o := by
  unfold F_69 at hB
  refine rm_in (L := [.ref a0, .ref a1, .int a2, .int a3, .int a4, .int a5, .null]) (Nat.le_of_ble_eq_true rfl) rfl ?_
  refine rg_p rfl rfl ?_
  obtain ⟨c1, hB⟩ := dg_e hB
  obtain ⟨r2, p3, hB⟩ := dp_e hB
  refine rg_gp rfl rfl rfl (of_decide_eq_true c1) p3 ?_
  refine rg_p rfl rfl ?_
  obtain ⟨c4, hB⟩ := dg_e hB
  obtain ⟨r5, p6, hB⟩ := dp_e hB
  refine rg_aa (t := 103) (by decide) rfl (ai_of c4) p6 ?_
  obtain ⟨c7, hB⟩ := dg_e hB
  refine rg_gz rfl rfl rfl (of_decide_eq_true c7) ?_
  show rg 69 9 _ _ _ _
  rcases db_e hB with ⟨q8, hB⟩ | ⟨q8, hB⟩
  · refine rg_bt (t := 26) (pc' := 12) rfl rfl q8 ?_
    exact sB_69_26 f  _ _ _ _ _ _ _ h _ hB
  · refine rg_bf (t := 26) (pc' := 12) rfl rfl q8 ?_
    refine rg_p rfl rfl ?_
    refine rg_gz rfl rfl rfl (of_decide_eq_true c1) ?_
    rcases db_e hB with ⟨q9, hB⟩ | ⟨q9, hB⟩
    · refine rg_bt (t := 26) (pc' := 19) rfl rfl q9 ?_
      exact sB_69_26 f  _ _ _ _ _ _ _ h _ hB
    · refine rg_bf (t := 26) (pc' := 19) rfl rfl q9 ?_
      refine rg_p rfl rfl ?_
      obtain ⟨c10, hB⟩ := dg_e hB
      rcases di_e hB with ⟨v14, h11, z12, hB⟩ | ⟨q13, h11, z12, hB⟩
      · refine rg_call (rg_v9 (n := 0) (b := a1) (as := [.ref a1]) (ar := []) rfl rfl rfl (Nat.le_of_ble_eq_true rfl) rfl rfl (Nat.le_of_ble_eq_true rfl) (of_decide_eq_true c10)) (sF_24 z12) ?_
        rcases db_e hB with ⟨q15, hB⟩ | ⟨q15, hB⟩
        · refine rg_bt (t := 27) (pc' := 26) rfl rfl q15 ?_
          refine rg_p rfl rfl ?_
          refine rg_p rfl rfl ?_
          obtain ⟨c16, hB⟩ := dg_e hB
          refine rg_gz rfl rfl rfl (of_decide_eq_true c16) ?_
          refine rg_ic (v := (1 : Int32)) rfl (by decide) ?_
          refine rg_p rfl rfl ?_
          show rg 69 34 _ _ _ _
          obtain ⟨h17, e18, hB⟩ := dl_e hB
          refine rg_pi rfl rfl rfl (of_decide_eq_true c16) e18 ?_
          refine rg_p rfl rfl ?_
          obtain ⟨c19, hB⟩ := dg_e hB
          rcases di_e hB with ⟨v23, h20, z21, hB⟩ | ⟨q22, h20, z21, hB⟩
          · refine rg_call (rg_v9 (n := 0) (b := a1) (as := [.ref a1]) (ar := []) rfl rfl rfl (Nat.le_of_ble_eq_true rfl) rfl rfl (Nat.le_of_ble_eq_true rfl) (of_decide_eq_true c19)) (sF_8 z21) ?_
            refine rg_bi (v := (8 : Int32)) rfl (by decide) ?_
            refine rg_p rfl rfl ?_
            obtain ⟨c24, hB⟩ := dg_e hB
            rcases di_e hB with ⟨v28, h25, z26, hB⟩ | ⟨q27, h25, z26, hB⟩
            · refine rg_call (rg_v9 (n := 0) (b := a1) (as := [.ref a1]) (ar := []) rfl rfl rfl (Nat.le_of_ble_eq_true rfl) rfl rfl (Nat.le_of_ble_eq_true rfl) (of_decide_eq_true c24)) (sF_10 z26) ?_
              refine rg_mn rfl rfl (Nat.le_of_ble_eq_true rfl) ?_
              refine rg_p rfl rfl ?_
              refine rg_p (L' := [.ref a0, .ref a1, .int a2, .int a3, .int a4, .int a5, .int (v23 + (if v28 < (8 : Int32) then v28 else (8 : Int32)))]) rfl rfl ?_
              refine rg_p rfl rfl ?_
              obtain ⟨c29, hB⟩ := dg_e hB
              obtain ⟨r30, p31, hB⟩ := dp_e hB
              refine rg_gp rfl rfl rfl (of_decide_eq_true c29) p31 ?_
              show rg 69 57 _ _ _ _
              obtain ⟨c32, hB⟩ := dg_e hB
              obtain ⟨r33, p34, hB⟩ := dp_e hB
              refine rg_gp rfl rfl rfl (of_decide_eq_true c32) p34 ?_
              refine rg_bi (v := (20 : Int32)) rfl (by decide) ?_
              refine rg_p rfl rfl ?_
              refine rg_bi (v := (24 : Int32)) rfl (by decide) ?_
              refine rg_p rfl rfl ?_
              refine rg_p rfl rfl ?_
              show rg 69 68 _ _ _ _
              refine rg_bi (v := (16 : Int32)) rfl (by decide) ?_
              refine rg_p rfl rfl ?_
              refine rg_p rfl rfl ?_
              rcases dv_e hB with ⟨h35, z36, hB⟩ | ⟨q37, h35, z36, hB⟩
              · refine rg_call (rg_s9 (n := 3) (as := [.ref r33, .int (20 : Int32), .int ((a3 <<< ((24 : Int32) &&& 31)) ||| (a4 <<< ((16 : Int32) &&& 31)))]) (ar := []) rfl (rg_s0 rfl) rfl rfl (Nat.le_of_ble_eq_true rfl) rfl rfl (Nat.le_of_ble_eq_true rfl)) (sF_122 z36) ?_
                refine rg_p rfl rfl ?_
                obtain ⟨c38, hB⟩ := dg_e hB
                obtain ⟨r39, p40, hB⟩ := dp_e hB
                refine rg_gp rfl rfl rfl (of_decide_eq_true c38) p40 ?_
                obtain ⟨c41, hB⟩ := dg_e hB
                obtain ⟨r42, p43, hB⟩ := dp_e hB
                refine rg_gp rfl rfl rfl (of_decide_eq_true c41) p43 ?_
                refine rg_bi (v := (24 : Int32)) rfl (by decide) ?_
                refine rg_p rfl rfl ?_
                show rg 69 86 _ _ _ _
                rcases dv_e hB with ⟨h44, z45, hB⟩ | ⟨q46, h44, z45, hB⟩
                · refine rg_call (rg_s9 (n := 3) (as := [.ref r42, .int (24 : Int32), .int a5]) (ar := []) rfl (rg_s0 rfl) rfl rfl (Nat.le_of_ble_eq_true rfl) rfl rfl (Nat.le_of_ble_eq_true rfl)) (sF_122 z45) ?_
                  refine rg_p rfl rfl ?_
                  obtain ⟨c47, hB⟩ := dg_e hB
                  obtain ⟨r48, p49, hB⟩ := dp_e hB
                  refine rg_gp rfl rfl rfl (of_decide_eq_true c47) p49 ?_
                  refine rg_ic (v := (0 : Int32)) rfl (by decide) ?_
                  refine rg_p rfl rfl ?_
                  obtain ⟨c50, hB⟩ := dg_e hB
                  obtain ⟨r51, p52, hB⟩ := dp_e hB
                  refine rg_gp rfl rfl rfl (of_decide_eq_true c50) p52 ?_
                  show rg 69 98 _ _ _ _
                  obtain ⟨c53, hB⟩ := dg_e hB
                  obtain ⟨r54, p55, hB⟩ := dp_e hB
                  refine rg_gp rfl rfl rfl (of_decide_eq_true c53) p55 ?_
                  refine rg_bi (v := (28 : Int32)) rfl (by decide) ?_
                  refine rg_p rfl rfl ?_
                  obtain ⟨c56, hB⟩ := dg_e hB
                  obtain ⟨h57, e58, hB⟩ := dl_e hB
                  refine rg_cp (t := 65) (by decide) rfl rfl (Nat.le_of_ble_eq_true rfl) (ac_of c56) e58 ?_
                  refine rg_p rfl rfl ?_
                  refine rg_bi (v := (8 : Int32)) rfl (by decide) ?_
                  show rg 69 111 _ _ _ _
                  refine rg_p rfl rfl ?_
                  refine rg_p rfl rfl ?_
                  refine rg_p rfl rfl ?_
                  refine rg_p rfl rfl ?_
                  obtain ⟨c59, hB⟩ := dg_e hB
                  obtain ⟨r60, p61, hB⟩ := dp_e hB
                  refine rg_gp rfl rfl rfl (of_decide_eq_true c59) p61 ?_
                  refine rg_p rfl rfl ?_
                  show rg 69 120 _ _ _ _
                  obtain ⟨c62, hB⟩ := dg_e hB
                  obtain ⟨r63, p64, hB⟩ := dp_e hB
                  refine rg_aa (t := 103) (by decide) rfl (ai_of c62) p64 ?_
                  obtain ⟨c65, hB⟩ := dg_e hB
                  refine rg_gz rfl rfl rfl (of_decide_eq_true c65) ?_
                  refine rg_p rfl rfl ?_
                  obtain ⟨c66, hB⟩ := dg_e hB
                  rcases di_e hB with ⟨v70, h67, z68, hB⟩ | ⟨q69, h67, z68, hB⟩
                  · refine rg_call (rg_v9 (n := 0) (b := a1) (as := [.ref a1]) (ar := []) rfl rfl rfl (Nat.le_of_ble_eq_true rfl) rfl rfl (Nat.le_of_ble_eq_true rfl) (of_decide_eq_true c66)) (sF_18 z68) ?_
                    obtain ⟨c71, hB⟩ := dg_e hB
                    rcases dv_e hB with ⟨h72, z73, hB⟩ | ⟨q74, h72, z73, hB⟩
                    · refine rg_call (rg_v9 (n := 4) (b := a0) (as := [.ref a0, .int ((8 : Int32) + (v23 + (if v28 < (8 : Int32) then v28 else (8 : Int32)))), .int a2, .int (hp_z h57 r63 0), .int v70]) (ar := []) rfl rfl rfl (Nat.le_of_ble_eq_true rfl) rfl rfl (Nat.le_of_ble_eq_true rfl) (of_decide_eq_true c71)) (sF_71 z73) ?_
                      cases hB
                      exact rg_rv rfl rfl
                    · subst hB
                      exact rg_callX (rg_v9 (n := 4) (b := a0) (as := [.ref a0, .int ((8 : Int32) + (v23 + (if v28 < (8 : Int32) then v28 else (8 : Int32)))), .int a2, .int (hp_z h57 r63 0), .int v70]) (ar := []) rfl rfl rfl (Nat.le_of_ble_eq_true rfl) rfl rfl (Nat.le_of_ble_eq_true rfl) (of_decide_eq_true c71)) (sF_71 z73)
                  · subst hB
                    exact rg_callX (rg_v9 (n := 0) (b := a1) (as := [.ref a1]) (ar := []) rfl rfl rfl (Nat.le_of_ble_eq_true rfl) rfl rfl (Nat.le_of_ble_eq_true rfl) (of_decide_eq_true c66)) (sF_18 z68)
                · subst hB
                  exact rg_callX (rg_s9 (n := 3) (as := [.ref r42, .int (24 : Int32), .int a5]) (ar := []) rfl (rg_s0 rfl) rfl rfl (Nat.le_of_ble_eq_true rfl) rfl rfl (Nat.le_of_ble_eq_true rfl)) (sF_122 z45)
              · subst hB
                exact rg_callX (rg_s9 (n := 3) (as := [.ref r33, .int (20 : Int32), .int ((a3 <<< ((24 : Int32) &&& 31)) ||| (a4 <<< ((16 : Int32) &&& 31)))]) (ar := []) rfl (rg_s0 rfl) rfl rfl (Nat.le_of_ble_eq_true rfl) rfl rfl (Nat.le_of_ble_eq_true rfl)) (sF_122 z36)
            · subst hB
              exact rg_callX (rg_v9 (n := 0) (b := a1) (as := [.ref a1]) (ar := []) rfl rfl rfl (Nat.le_of_ble_eq_true rfl) rfl rfl (Nat.le_of_ble_eq_true rfl) (of_decide_eq_true c24)) (sF_10 z26)
          · subst hB
            exact rg_callX (rg_v9 (n := 0) (b := a1) (as := [.ref a1]) (ar := []) rfl rfl rfl (Nat.le_of_ble_eq_true rfl) rfl rfl (Nat.le_of_ble_eq_true rfl) (of_decide_eq_true c19)) (sF_8 z21)
        · refine rg_bf (t := 27) (pc' := 26) rfl rfl q15 ?_
          exact sB_69_26 f  _ _ _ _ _ _ _ h11 _ hB
      · subst hB
        exact rg_callX (rg_v9 (n := 0) (b := a1) (as := [.ref a1]) (ar := []) rfl rfl rfl (Nat.le_of_ble_eq_true rfl) rfl rfl (Nat.le_of_ble_eq_true rfl) (of_decide_eq_true c10)) (sF_24 z12)
-- 70: RouteHouse.sendAnswer(LRouteHouse$Packet;I)V
def F_70 (f : Nat) (a0 : Nat) (a1 : Nat) (a2 : Int32) (h : hp_T) : Option ev_O := (dg (decide (hp_k h a0 = some (7, 0))) (dp (hp_p h a0 0) fun r2 => (dg (aib 103 h r2 a2) (dp (hp_p h r2 (Int32.toNatClampNeg a2)) fun r5 => (dg (decide (hp_k h r5 = some (3, 0))) (db (ev_c .ne (hp_z h r5 2) 0) (dg (decide (hp_k h a1 = some (2, 0))) (di (F_10 f a1 h) fun v13 h10 => (dg (decide (hp_k h10 a1 = some (2, 0))) (dp (hp_p h10 a1 0) fun r15 => (di (F_8 f a1 h10) fun v20 h17 => (dg (decide (hp_k h17 a0 = some (7, 0))) (dp (hp_p h17 a0 4) fun r22 => (dg (decide (hp_k h17 r22 = some (2, 0))) (dp (hp_p h17 r22 0) fun r25 => (dg (acb 65 h17 r15 v20 r25 (20 : Int32) v13) (dl (wc h17 r15 v20 r25 (20 : Int32) v13) fun h28 => (dg (decide (hp_k h28 a0 = some (7, 0))) (dp (hp_p h28 a0 4) fun r31 => (dg (decide (hp_k h28 r31 = some (2, 0))) (dp (hp_p h28 r31 0) fun r34 => (dg (aib 65 h28 r34 (20 : Int32)) (dl (wz h28 r34 (Int32.toNatClampNeg (20 : Int32)) (vp_nar .byte (0 : Int32))) fun h37 => (dg (decide (hp_k h37 a1 = some (2, 0))) (di (F_19 f a1 h37) fun v43 h40 => (dg (decide (hp_k h40 a1 = some (2, 0))) (di (F_18 f a1 h40) fun v48 h45 => (dg (decide (hp_k h45 a0 = some (7, 0))) (dv (F_71 f a0 v13 a2 v43 v48 h45) fun h50 => (some (.inl none, h50))))))))))))))))))))))))) (some (.inl none, h))))))))
theorem sF_70 {f : Nat} {a0 : Nat} {a1 : Nat} {a2 : Int32} {h : hp_T} {o : ev_O} (hB : F_70 f a0 a1 a2 h = some o) : rm 70 [.ref a0, .ref a1, .int a2] h o := by
  unfold F_70 at hB
  refine rm_in (L := [.ref a0, .ref a1, .int a2, .null]) (Nat.le_of_ble_eq_true rfl) rfl ?_
  refine rg_p rfl rfl ?_
  obtain ⟨c1, hB⟩ := dg_e hB
  obtain ⟨r2, p3, hB⟩ := dp_e hB
  refine rg_gp rfl rfl rfl (of_decide_eq_true c1) p3 ?_
  refine rg_p rfl rfl ?_
  obtain ⟨c4, hB⟩ := dg_e hB
  obtain ⟨r5, p6, hB⟩ := dp_e hB
  refine rg_aa (t := 103) (by decide) rfl (ai_of c4) p6 ?_
  obtain ⟨c7, hB⟩ := dg_e hB
  refine rg_gz rfl rfl rfl (of_decide_eq_true c7) ?_
  show rg 70 9 _ _ _ _
  rcases db_e hB with ⟨q8, hB⟩ | ⟨q8, hB⟩
  · refine rg_bt (t := 13) (pc' := 12) rfl rfl q8 ?_
    refine rg_p rfl rfl ?_
    obtain ⟨c9, hB⟩ := dg_e hB
    rcases di_e hB with ⟨v13, h10, z11, hB⟩ | ⟨q12, h10, z11, hB⟩
    · refine rg_call (rg_v9 (n := 0) (b := a1) (as := [.ref a1]) (ar := []) rfl rfl rfl (Nat.le_of_ble_eq_true rfl) rfl rfl (Nat.le_of_ble_eq_true rfl) (of_decide_eq_true c9)) (sF_10 z11) ?_
      refine rg_p (L' := [.ref a0, .ref a1, .int a2, .int v13]) rfl rfl ?_
      refine rg_p rfl rfl ?_
      obtain ⟨c14, hB⟩ := dg_e hB
      obtain ⟨r15, p16, hB⟩ := dp_e hB
      refine rg_gp rfl rfl rfl (of_decide_eq_true c14) p16 ?_
      refine rg_p rfl rfl ?_
      rcases di_e hB with ⟨v20, h17, z18, hB⟩ | ⟨q19, h17, z18, hB⟩
      · refine rg_call (rg_v9 (n := 0) (b := a1) (as := [.ref a1]) (ar := []) rfl rfl rfl (Nat.le_of_ble_eq_true rfl) rfl rfl (Nat.le_of_ble_eq_true rfl) (of_decide_eq_true c14)) (sF_8 z18) ?_
        refine rg_p rfl rfl ?_
        obtain ⟨c21, hB⟩ := dg_e hB
        obtain ⟨r22, p23, hB⟩ := dp_e hB
        refine rg_gp rfl rfl rfl (of_decide_eq_true c21) p23 ?_
        obtain ⟨c24, hB⟩ := dg_e hB
        obtain ⟨r25, p26, hB⟩ := dp_e hB
        refine rg_gp rfl rfl rfl (of_decide_eq_true c24) p26 ?_
        refine rg_bi (v := (20 : Int32)) rfl (by decide) ?_
        refine rg_p rfl rfl ?_
        show rg 70 36 _ _ _ _
        obtain ⟨c27, hB⟩ := dg_e hB
        obtain ⟨h28, e29, hB⟩ := dl_e hB
        refine rg_cp (t := 65) (by decide) rfl rfl (Nat.le_of_ble_eq_true rfl) (ac_of c27) e29 ?_
        refine rg_p rfl rfl ?_
        obtain ⟨c30, hB⟩ := dg_e hB
        obtain ⟨r31, p32, hB⟩ := dp_e hB
        refine rg_gp rfl rfl rfl (of_decide_eq_true c30) p32 ?_
        obtain ⟨c33, hB⟩ := dg_e hB
        obtain ⟨r34, p35, hB⟩ := dp_e hB
        refine rg_gp rfl rfl rfl (of_decide_eq_true c33) p35 ?_
        refine rg_bi (v := (20 : Int32)) rfl (by decide) ?_
        refine rg_ic (v := (0 : Int32)) rfl (by decide) ?_
        show rg 70 49 _ _ _ _
        obtain ⟨c36, hB⟩ := dg_e hB
        obtain ⟨h37, e38, hB⟩ := dl_e hB
        refine rg_bs (t := 65) (ty := .byte) (by decide) rfl rfl (ai_of c36) e38 ?_
        refine rg_p rfl rfl ?_
        refine rg_p rfl rfl ?_
        refine rg_p rfl rfl ?_
        refine rg_p rfl rfl ?_
        obtain ⟨c39, hB⟩ := dg_e hB
        rcases di_e hB with ⟨v43, h40, z41, hB⟩ | ⟨q42, h40, z41, hB⟩
        · refine rg_call (rg_v9 (n := 0) (b := a1) (as := [.ref a1]) (ar := []) rfl rfl rfl (Nat.le_of_ble_eq_true rfl) rfl rfl (Nat.le_of_ble_eq_true rfl) (of_decide_eq_true c39)) (sF_19 z41) ?_
          refine rg_p rfl rfl ?_
          obtain ⟨c44, hB⟩ := dg_e hB
          rcases di_e hB with ⟨v48, h45, z46, hB⟩ | ⟨q47, h45, z46, hB⟩
          · refine rg_call (rg_v9 (n := 0) (b := a1) (as := [.ref a1]) (ar := []) rfl rfl rfl (Nat.le_of_ble_eq_true rfl) rfl rfl (Nat.le_of_ble_eq_true rfl) (of_decide_eq_true c44)) (sF_18 z46) ?_
            obtain ⟨c49, hB⟩ := dg_e hB
            rcases dv_e hB with ⟨h50, z51, hB⟩ | ⟨q52, h50, z51, hB⟩
            · refine rg_call (rg_v9 (n := 4) (b := a0) (as := [.ref a0, .int v13, .int a2, .int v43, .int v48]) (ar := []) rfl rfl rfl (Nat.le_of_ble_eq_true rfl) rfl rfl (Nat.le_of_ble_eq_true rfl) (of_decide_eq_true c49)) (sF_71 z51) ?_
              cases hB
              exact rg_rv rfl rfl
            · subst hB
              exact rg_callX (rg_v9 (n := 4) (b := a0) (as := [.ref a0, .int v13, .int a2, .int v43, .int v48]) (ar := []) rfl rfl rfl (Nat.le_of_ble_eq_true rfl) rfl rfl (Nat.le_of_ble_eq_true rfl) (of_decide_eq_true c49)) (sF_71 z51)
          · subst hB
            exact rg_callX (rg_v9 (n := 0) (b := a1) (as := [.ref a1]) (ar := []) rfl rfl rfl (Nat.le_of_ble_eq_true rfl) rfl rfl (Nat.le_of_ble_eq_true rfl) (of_decide_eq_true c44)) (sF_18 z46)
        · subst hB
          exact rg_callX (rg_v9 (n := 0) (b := a1) (as := [.ref a1]) (ar := []) rfl rfl rfl (Nat.le_of_ble_eq_true rfl) rfl rfl (Nat.le_of_ble_eq_true rfl) (of_decide_eq_true c39)) (sF_19 z41)
      · subst hB
        exact rg_callX (rg_v9 (n := 0) (b := a1) (as := [.ref a1]) (ar := []) rfl rfl rfl (Nat.le_of_ble_eq_true rfl) rfl rfl (Nat.le_of_ble_eq_true rfl) (of_decide_eq_true c14)) (sF_8 z18)
    · subst hB
      exact rg_callX (rg_v9 (n := 0) (b := a1) (as := [.ref a1]) (ar := []) rfl rfl rfl (Nat.le_of_ble_eq_true rfl) rfl rfl (Nat.le_of_ble_eq_true rfl) (of_decide_eq_true c9)) (sF_10 z11)
  · refine rg_bf (t := 13) (pc' := 12) rfl rfl q8 ?_
    cases hB
    exact rg_rv rfl rfl
-- 67: RouteHouse.takeOwn(I)I
def B_67_46 (f : Nat) (l0 : Nat) (l1 : Int32) (l2 : Nat) (h : hp_T) : Option ev_O := (dg (decide (hp_k h l2 = some (2, 0))) (di (F_17 f l2 h) fun v5 h2 => (db (ev_c .ne v5 (17 : Int32)) (db (ev_c .eq v5 (1 : Int32)) (dg (decide (hp_k h2 l2 = some (2, 0))) (di (F_23 f l2 h2) fun v12 h9 => (db (ev_c .ne v12 0) (dg (decide (hp_k h9 l0 = some (7, 0))) (dv (F_70 f l0 l2 l1 h9) fun h15 => (some (.inl (some (.int (11 : Int32))), h15)))) (some (.inl (some (.int (12 : Int32))), h9))))) (dg (decide (hp_k h2 l0 = some (7, 0))) (dv (F_69 f l0 l2 l1 (3 : Int32) (2 : Int32) (0 : Int32) h2) fun h19 => (some (.inl (some (.int (14 : Int32))), h19))))) (dg (decide (hp_k h2 l0 = some (7, 0))) (dp (hp_p h2 l0 7) fun r23 => (dg (decide (hp_k h2 r23 = some (0, 0))) (dv (F_1 f r23 l2 h2) fun h26 => (some (.inl (some (.int (13 : Int32))), h26)))))))))
theorem sB_67_46 (f : Nat) (l0 : Nat) (l1 : Int32) (l2 : Nat) (w3 : Value) (h : hp_T) (o : ev_O) (hB : B_67_46 f l0 l1 l2 h = some o) : rg 67 46 [.ref l0, .int l1, .ref l2, w3] [] h o := by
  unfold B_67_46 at hB
  refine rg_p rfl rfl ?_
  obtain ⟨c1, hB⟩ := dg_e hB
  rcases di_e hB with ⟨v5, h2, z3, hB⟩ | ⟨q4, h2, z3, hB⟩
  · refine rg_call (rg_v9 (n := 0) (b := l2) (as := [.ref l2]) (ar := []) rfl rfl rfl (Nat.le_of_ble_eq_true rfl) rfl rfl (Nat.le_of_ble_eq_true rfl) (of_decide_eq_true c1)) (sF_17 z3) ?_
    refine rg_p (L' := [.ref l0, .int l1, .ref l2, .int v5]) rfl rfl ?_
    refine rg_p rfl rfl ?_
    refine rg_bi (v := (17 : Int32)) rfl (by decide) ?_
    rcases db_e hB with ⟨q6, hB⟩ | ⟨q6, hB⟩
    · refine rg_bt (t := 68) (pc' := 57) rfl rfl q6 ?_
      refine rg_p rfl rfl ?_
      refine rg_ic (v := (1 : Int32)) rfl (by decide) ?_
      rcases db_e hB with ⟨q7, hB⟩ | ⟨q7, hB⟩
      · refine rg_bt (t := 85) (pc' := 73) rfl rfl q7 ?_
        refine rg_p rfl rfl ?_
        obtain ⟨c8, hB⟩ := dg_e hB
        rcases di_e hB with ⟨v12, h9, z10, hB⟩ | ⟨q11, h9, z10, hB⟩
        · refine rg_call (rg_v9 (n := 0) (b := l2) (as := [.ref l2]) (ar := []) rfl rfl rfl (Nat.le_of_ble_eq_true rfl) rfl rfl (Nat.le_of_ble_eq_true rfl) (of_decide_eq_true c8)) (sF_23 z10) ?_
          rcases db_e hB with ⟨q13, hB⟩ | ⟨q13, hB⟩
          · refine rg_bt (t := 95) (pc' := 92) rfl rfl q13 ?_
            refine rg_p rfl rfl ?_
            refine rg_p rfl rfl ?_
            refine rg_p rfl rfl ?_
            obtain ⟨c14, hB⟩ := dg_e hB
            rcases dv_e hB with ⟨h15, z16, hB⟩ | ⟨q17, h15, z16, hB⟩
            · refine rg_call (rg_v9 (n := 2) (b := l0) (as := [.ref l0, .ref l2, .int l1]) (ar := []) rfl rfl rfl (Nat.le_of_ble_eq_true rfl) rfl rfl (Nat.le_of_ble_eq_true rfl) (of_decide_eq_true c14)) (sF_70 z16) ?_
              refine rg_bi (v := (11 : Int32)) rfl (by decide) ?_
              cases hB
              exact rg_ri rfl rfl rfl
            · subst hB
              exact rg_callX (rg_v9 (n := 2) (b := l0) (as := [.ref l0, .ref l2, .int l1]) (ar := []) rfl rfl rfl (Nat.le_of_ble_eq_true rfl) rfl rfl (Nat.le_of_ble_eq_true rfl) (of_decide_eq_true c14)) (sF_70 z16)
          · refine rg_bf (t := 95) (pc' := 92) rfl rfl q13 ?_
            refine rg_bi (v := (12 : Int32)) rfl (by decide) ?_
            cases hB
            exact rg_ri rfl rfl rfl
        · subst hB
          exact rg_callX (rg_v9 (n := 0) (b := l2) (as := [.ref l2]) (ar := []) rfl rfl rfl (Nat.le_of_ble_eq_true rfl) rfl rfl (Nat.le_of_ble_eq_true rfl) (of_decide_eq_true c8)) (sF_23 z10)
      · refine rg_bf (t := 85) (pc' := 73) rfl rfl q7 ?_
        refine rg_p rfl rfl ?_
        refine rg_p rfl rfl ?_
        refine rg_p rfl rfl ?_
        refine rg_ic (v := (3 : Int32)) rfl (by decide) ?_
        refine rg_ic (v := (2 : Int32)) rfl (by decide) ?_
        show rg 67 78 _ _ _ _
        refine rg_ic (v := (0 : Int32)) rfl (by decide) ?_
        obtain ⟨c18, hB⟩ := dg_e hB
        rcases dv_e hB with ⟨h19, z20, hB⟩ | ⟨q21, h19, z20, hB⟩
        · refine rg_call (rg_v9 (n := 5) (b := l0) (as := [.ref l0, .ref l2, .int l1, .int (3 : Int32), .int (2 : Int32), .int (0 : Int32)]) (ar := []) rfl rfl rfl (Nat.le_of_ble_eq_true rfl) rfl rfl (Nat.le_of_ble_eq_true rfl) (of_decide_eq_true c18)) (sF_69 z20) ?_
          refine rg_bi (v := (14 : Int32)) rfl (by decide) ?_
          cases hB
          exact rg_ri rfl rfl rfl
        · subst hB
          exact rg_callX (rg_v9 (n := 5) (b := l0) (as := [.ref l0, .ref l2, .int l1, .int (3 : Int32), .int (2 : Int32), .int (0 : Int32)]) (ar := []) rfl rfl rfl (Nat.le_of_ble_eq_true rfl) rfl rfl (Nat.le_of_ble_eq_true rfl) (of_decide_eq_true c18)) (sF_69 z20)
    · refine rg_bf (t := 68) (pc' := 57) rfl rfl q6 ?_
      refine rg_p rfl rfl ?_
      obtain ⟨c22, hB⟩ := dg_e hB
      obtain ⟨r23, p24, hB⟩ := dp_e hB
      refine rg_gp rfl rfl rfl (of_decide_eq_true c22) p24 ?_
      refine rg_p rfl rfl ?_
      obtain ⟨c25, hB⟩ := dg_e hB
      rcases dv_e hB with ⟨h26, z27, hB⟩ | ⟨q28, h26, z27, hB⟩
      · refine rg_call (rg_v9 (n := 1) (b := r23) (as := [.ref r23, .ref l2]) (ar := []) rfl rfl rfl (Nat.le_of_ble_eq_true rfl) rfl rfl (Nat.le_of_ble_eq_true rfl) (of_decide_eq_true c25)) (sF_1 z27) ?_
        refine rg_bi (v := (13 : Int32)) rfl (by decide) ?_
        cases hB
        exact rg_ri rfl rfl rfl
      · subst hB
        exact rg_callX (rg_v9 (n := 1) (b := r23) (as := [.ref r23, .ref l2]) (ar := []) rfl rfl rfl (Nat.le_of_ble_eq_true rfl) rfl rfl (Nat.le_of_ble_eq_true rfl) (of_decide_eq_true c25)) (sF_1 z27)
  · subst hB
    exact rg_callX (rg_v9 (n := 0) (b := l2) (as := [.ref l2]) (ar := []) rfl rfl rfl (Nat.le_of_ble_eq_true rfl) rfl rfl (Nat.le_of_ble_eq_true rfl) (of_decide_eq_true c1)) (sF_17 z3)
def F_67 (f : Nat) (a0 : Nat) (a1 : Int32) (h : hp_T) : Option ev_O := (dg (decide (hp_k h a0 = some (7, 0))) (dp (hp_p h a0 2) fun r2 => (dg (decide (hp_k h r2 = some (2, 0))) (di (F_14 f r2 h) fun v8 h5 => (db (ev_c .eq v8 0) (B_67_46 f  a0 a1 r2 h5) (dg (decide (hp_k h5 a0 = some (7, 0))) (dp (hp_p h5 a0 6) fun r11 => (dp (hp_p h5 a0 2) fun r13 => (dp (hp_p h5 a0 3) fun r15 => (dg (decide (hp_k h5 r11 = some (6, 0))) (di (F_40 f r11 r13 a1 (hp_z h5 a0 10) r15 h5) fun v21 h18 => (db (ev_c .ne v21 0) (dg (decide (hp_k h18 a0 = some (7, 0))) (dp (hp_p h18 a0 3) fun r24 => (B_67_46 f  a0 a1 r24 h18))) (some (.inl (some (.int (10 : Int32))), h18))))))))))))))
theorem sF_67 {f : Nat} {a0 : Nat} {a1 : Int32} {h : hp_T} {o : ev_O} (hB : F_67 f a0 a1 h = some o) : rm 67 [.ref a0, .int a1] h o := by
  unfold F_67 at hB
  refine rm_in (L := [.ref a0, .int a1, .null, .null]) (Nat.le_of_ble_eq_true rfl) rfl ?_
  refine rg_p rfl rfl ?_
  obtain ⟨c1, hB⟩ := dg_e hB
  obtain ⟨r2, p3, hB⟩ := dp_e hB
  refine rg_gp rfl rfl rfl (of_decide_eq_true c1) p3 ?_
  refine rg_p (L' := [.ref a0, .int a1, .ref r2, .null]) rfl rfl ?_
  refine rg_p rfl rfl ?_
  refine rg_gp rfl rfl rfl (of_decide_eq_true c1) p3 ?_
  show rg 67 9 _ _ _ _
  obtain ⟨c4, hB⟩ := dg_e hB
  rcases di_e hB with ⟨v8, h5, z6, hB⟩ | ⟨q7, h5, z6, hB⟩
  · refine rg_call (rg_v9 (n := 0) (b := r2) (as := [.ref r2]) (ar := []) rfl rfl rfl (Nat.le_of_ble_eq_true rfl) rfl rfl (Nat.le_of_ble_eq_true rfl) (of_decide_eq_true c4)) (sF_14 z6) ?_
    rcases db_e hB with ⟨q9, hB⟩ | ⟨q9, hB⟩
    · refine rg_bt (t := 46) (pc' := 15) rfl rfl q9 ?_
      exact sB_67_46 f  _ _ _ _ h5 _ hB
    · refine rg_bf (t := 46) (pc' := 15) rfl rfl q9 ?_
      refine rg_p rfl rfl ?_
      obtain ⟨c10, hB⟩ := dg_e hB
      obtain ⟨r11, p12, hB⟩ := dp_e hB
      refine rg_gp rfl rfl rfl (of_decide_eq_true c10) p12 ?_
      refine rg_p rfl rfl ?_
      obtain ⟨r13, p14, hB⟩ := dp_e hB
      refine rg_gp rfl rfl rfl (of_decide_eq_true c10) p14 ?_
      refine rg_p rfl rfl ?_
      show rg 67 24 _ _ _ _
      refine rg_p rfl rfl ?_
      refine rg_gz rfl rfl rfl (of_decide_eq_true c10) ?_
      refine rg_p rfl rfl ?_
      obtain ⟨r15, p16, hB⟩ := dp_e hB
      refine rg_gp rfl rfl rfl (of_decide_eq_true c10) p16 ?_
      obtain ⟨c17, hB⟩ := dg_e hB
      rcases di_e hB with ⟨v21, h18, z19, hB⟩ | ⟨q20, h18, z19, hB⟩
      · refine rg_call (rg_v9 (n := 4) (b := r11) (as := [.ref r11, .ref r13, .int a1, .int (hp_z h5 a0 10), .ref r15]) (ar := []) rfl rfl rfl (Nat.le_of_ble_eq_true rfl) rfl rfl (Nat.le_of_ble_eq_true rfl) (of_decide_eq_true c17)) (sF_40 z19) ?_
        rcases db_e hB with ⟨q22, hB⟩ | ⟨q22, hB⟩
        · refine rg_bt (t := 41) (pc' := 38) rfl rfl q22 ?_
          refine rg_p rfl rfl ?_
          obtain ⟨c23, hB⟩ := dg_e hB
          obtain ⟨r24, p25, hB⟩ := dp_e hB
          refine rg_gp rfl rfl rfl (of_decide_eq_true c23) p25 ?_
          refine rg_p (L' := [.ref a0, .int a1, .ref r24, .null]) rfl rfl ?_
          exact sB_67_46 f  _ _ _ _ h18 _ hB
        · refine rg_bf (t := 41) (pc' := 38) rfl rfl q22 ?_
          refine rg_bi (v := (10 : Int32)) rfl (by decide) ?_
          cases hB
          exact rg_ri rfl rfl rfl
      · subst hB
        exact rg_callX (rg_v9 (n := 4) (b := r11) (as := [.ref r11, .ref r13, .int a1, .int (hp_z h5 a0 10), .ref r15]) (ar := []) rfl rfl rfl (Nat.le_of_ble_eq_true rfl) rfl rfl (Nat.le_of_ble_eq_true rfl) (of_decide_eq_true c17)) (sF_40 z19)
  · subst hB
    exact rg_callX (rg_v9 (n := 0) (b := r2) (as := [.ref r2]) (ar := []) rfl rfl rfl (Nat.le_of_ble_eq_true rfl) rfl rfl (Nat.le_of_ble_eq_true rfl) (of_decide_eq_true c4)) (sF_14 z6)
-- 68: RouteHouse.sendOn(I)I
def B_68_266 (f : Nat) (s0 : Int32) (h : hp_T) : Option ev_O := (some (.inl (some (.int s0)), h))
theorem sB_68_266 (f : Nat) (s0 : Int32) (w0 : Value) (w1 : Value) (w2 : Value) (w3 : Value) (w4 : Value) (w5 : Value) (w6 : Value) (w7 : Value) (w8 : Value) (h : hp_T) (o : ev_O) (hB : B_68_266 f s0 h = some o) : rg 68 266 [w0, w1, w2, w3, w4, w5, w6, w7, w8] [.int s0] h o := by
  unfold B_68_266 at hB
  cases hB
  exact rg_ri rfl rfl rfl
def B_68_251 (f : Nat) (l8 : Int32) (s0 : Int32) (s1 : Int32) (s2 : Int32) (s3 : Nat) (s4 : Nat) (h : hp_T) : Option ev_O := (dg (decide (hp_k h s4 = some (1, 0))) (dv (F_4 f s4 s3 s2 s1 s0 h) fun h2 => (db (ev_c .eq l8 0) (B_68_266 f  (25 : Int32) h2) (B_68_266 f  (26 : Int32) h2))))
theorem sB_68_251 (f : Nat) (l8 : Int32) (s0 : Int32) (s1 : Int32) (s2 : Int32) (s3 : Nat) (s4 : Nat) (w0 : Value) (w1 : Value) (w2 : Value) (w3 : Value) (w4 : Value) (w5 : Value) (w6 : Value) (w7 : Value) (h : hp_T) (o : ev_O) (hB : B_68_251 f l8 s0 s1 s2 s3 s4 h = some o) : rg 68 251 [w0, w1, w2, w3, w4, w5, w6, w7, .int l8] [.int s0, .int s1, .int s2, .ref s3, .ref s4] h o := by
  unfold B_68_251 at hB
  obtain ⟨c1, hB⟩ := dg_e hB
  rcases dv_e hB with ⟨h2, z3, hB⟩ | ⟨q4, h2, z3, hB⟩
  · refine rg_call (rg_v9 (n := 4) (b := s4) (as := [.ref s4, .ref s3, .int s2, .int s1, .int s0]) (ar := []) rfl rfl rfl (Nat.le_of_ble_eq_true rfl) rfl rfl (Nat.le_of_ble_eq_true rfl) (of_decide_eq_true c1)) (sF_4 z3) ?_
    refine rg_p rfl rfl ?_
    rcases db_e hB with ⟨q5, hB⟩ | ⟨q5, hB⟩
    · refine rg_bt (t := 264) (pc' := 259) rfl rfl q5 ?_
      refine rg_bi (v := (25 : Int32)) rfl (by decide) ?_
      exact sB_68_266 f  _ _ _ _ _ _ _ _ _ _ h2 _ hB
    · refine rg_bf (t := 264) (pc' := 259) rfl rfl q5 ?_
      refine rg_bi (v := (26 : Int32)) rfl (by decide) ?_
      refine rg_p (pc' := 266) rfl rfl ?_
      exact sB_68_266 f  _ _ _ _ _ _ _ _ _ _ h2 _ hB
  · subst hB
    exact rg_callX (rg_v9 (n := 4) (b := s4) (as := [.ref s4, .ref s3, .int s2, .int s1, .int s0]) (ar := []) rfl rfl rfl (Nat.le_of_ble_eq_true rfl) rfl rfl (Nat.le_of_ble_eq_true rfl) (of_decide_eq_true c1)) (sF_4 z3)
def B_68_197 (f : Nat) (l0 : Nat) (l2 : Int32) (l4 : Int32) (l5 : Int32) (l6 : Int32) (l7 : Int32) (l8 : Int32) (h : hp_T) : Option ev_O := (dg (decide (hp_k h l0 = some (7, 0))) (dp (hp_p h l0 2) fun r2 => (dg (decide (hp_k h r2 = some (2, 0))) (dp (hp_p h r2 0) fun r5 => (dg (aib 65 h r5 (8 : Int32)) (dl (wz h r5 (Int32.toNatClampNeg (8 : Int32)) (vp_nar .byte ((l4 - (1 : Int32))).toInt8.toInt32)) fun h8 => (dg (decide (hp_k h8 l0 = some (7, 0))) (dp (hp_p h8 l0 5) fun r11 => (dp (hp_p h8 l0 2) fun r13 => (dp (hp_p h8 l0 1) fun r15 => (dg (decide (hp_k h8 r15 = some (4, 0))) (dp (hp_p h8 r15 3) fun r18 => (dg (aib 64 h8 r18 l5) (db (ev_c .ne (hp_z h8 r18 (Int32.toNatClampNeg l5)) 0) (B_68_251 f  l8 (hp_z h8 r18 (Int32.toNatClampNeg l5)) l6 l7 r13 r11 h8) (B_68_251 f  l8 l2 l6 l7 r13 r11 h8)))))))))))))))
theorem sB_68_197 (f : Nat) (l0 : Nat) (l2 : Int32) (l4 : Int32) (l5 : Int32) (l6 : Int32) (l7 : Int32) (l8 : Int32) (w1 : Value) (w3 : Value) (h : hp_T) (o : ev_O) (hB : B_68_197 f l0 l2 l4 l5 l6 l7 l8 h = some o) : rg 68 197 [.ref l0, w1, .int l2, w3, .int l4, .int l5, .int l6, .int l7, .int l8] [] h o := by
  unfold B_68_197 at hB
  refine rg_p rfl rfl ?_
  obtain ⟨c1, hB⟩ := dg_e hB
  obtain ⟨r2, p3, hB⟩ := dp_e hB
  refine rg_gp rfl rfl rfl (of_decide_eq_true c1) p3 ?_
  obtain ⟨c4, hB⟩ := dg_e hB
  obtain ⟨r5, p6, hB⟩ := dp_e hB
  refine rg_gp rfl rfl rfl (of_decide_eq_true c4) p6 ?_
  refine rg_bi (v := (8 : Int32)) rfl (by decide) ?_
  refine rg_p rfl rfl ?_
  show rg 68 208 _ _ _ _
  refine rg_ic (v := (1 : Int32)) rfl (by decide) ?_
  refine rg_p rfl rfl ?_
  refine rg_p rfl rfl ?_
  obtain ⟨c7, hB⟩ := dg_e hB
  obtain ⟨h8, e9, hB⟩ := dl_e hB
  refine rg_bs (t := 65) (ty := .byte) (by decide) rfl rfl (ai_of c7) e9 ?_
  refine rg_p rfl rfl ?_
  obtain ⟨c10, hB⟩ := dg_e hB
  obtain ⟨r11, p12, hB⟩ := dp_e hB
  refine rg_gp rfl rfl rfl (of_decide_eq_true c10) p12 ?_
  show rg 68 216 _ _ _ _
  refine rg_p rfl rfl ?_
  obtain ⟨r13, p14, hB⟩ := dp_e hB
  refine rg_gp rfl rfl rfl (of_decide_eq_true c10) p14 ?_
  refine rg_p rfl rfl ?_
  refine rg_p rfl rfl ?_
  refine rg_p rfl rfl ?_
  obtain ⟨r15, p16, hB⟩ := dp_e hB
  refine rg_gp rfl rfl rfl (of_decide_eq_true c10) p16 ?_
  show rg 68 228 _ _ _ _
  obtain ⟨c17, hB⟩ := dg_e hB
  obtain ⟨r18, p19, hB⟩ := dp_e hB
  refine rg_gp rfl rfl rfl (of_decide_eq_true c17) p19 ?_
  refine rg_p rfl rfl ?_
  obtain ⟨c20, hB⟩ := dg_e hB
  refine rg_ia rfl (ai_of c20) ?_
  rcases db_e hB with ⟨q21, hB⟩ | ⟨q21, hB⟩
  · refine rg_bt (t := 241) (pc' := 237) rfl rfl q21 ?_
    refine rg_p rfl rfl ?_
    refine rg_gp rfl rfl rfl (of_decide_eq_true c10) p16 ?_
    refine rg_gp rfl rfl rfl (of_decide_eq_true c17) p19 ?_
    refine rg_p rfl rfl ?_
    refine rg_ia rfl (ai_of c20) ?_
    exact sB_68_251 f  _ _ _ _ _ _ _ _ _ _ _ _ _ _ h8 _ hB
  · refine rg_bf (t := 241) (pc' := 237) rfl rfl q21 ?_
    refine rg_p rfl rfl ?_
    refine rg_p (pc' := 251) rfl rfl ?_
    exact sB_68_251 f  _ _ _ _ _ _ _ _ _ _ _ _ _ _ h8 _ hB
def B_68_164 (f : Nat) (l0 : Nat) (l1 : Int32) (l2 : Int32) (l4 : Int32) (l5 : Int32) (l6 : Int32) (l7 : Int32) (s0 : Int32) (h : hp_T) : Option ev_O := (db (ev_c .eq s0 0) (B_68_197 f  l0 l2 l4 l5 l6 l7 s0 h) (dg (decide (hp_k h l0 = some (7, 0))) (dp (hp_p h l0 2) fun r3 => (dg (decide (hp_k h r3 = some (2, 0))) (di (F_12 f r3 h) fun v9 h6 => (db (ev_c .eq v9 0) (B_68_197 f  l0 l2 l4 l5 l6 l7 s0 h6) (dg (decide (hp_k h6 l0 = some (7, 0))) (dp (hp_p h6 l0 2) fun r12 => (dv (F_69 f l0 r12 l1 (3 : Int32) (4 : Int32) l7 h6) fun h14 => (some (.inl (some (.int (24 : Int32))), h14)))))))))))
theorem sB_68_164 (f : Nat) (l0 : Nat) (l1 : Int32) (l2 : Int32) (l4 : Int32) (l5 : Int32) (l6 : Int32) (l7 : Int32) (s0 : Int32) (w3 : Value) (w8 : Value) (h : hp_T) (o : ev_O) (hB : B_68_164 f l0 l1 l2 l4 l5 l6 l7 s0 h = some o) : rg 68 164 [.ref l0, .int l1, .int l2, w3, .int l4, .int l5, .int l6, .int l7, w8] [.int s0] h o := by
  unfold B_68_164 at hB
  refine rg_p (L' := [.ref l0, .int l1, .int l2, w3, .int l4, .int l5, .int l6, .int l7, .int s0]) rfl rfl ?_
  refine rg_p rfl rfl ?_
  rcases db_e hB with ⟨q1, hB⟩ | ⟨q1, hB⟩
  · refine rg_bt (t := 197) (pc' := 171) rfl rfl q1 ?_
    exact sB_68_197 f  _ _ _ _ _ _ _ _ _ h _ hB
  · refine rg_bf (t := 197) (pc' := 171) rfl rfl q1 ?_
    refine rg_p rfl rfl ?_
    obtain ⟨c2, hB⟩ := dg_e hB
    obtain ⟨r3, p4, hB⟩ := dp_e hB
    refine rg_gp rfl rfl rfl (of_decide_eq_true c2) p4 ?_
    obtain ⟨c5, hB⟩ := dg_e hB
    rcases di_e hB with ⟨v9, h6, z7, hB⟩ | ⟨q8, h6, z7, hB⟩
    · refine rg_call (rg_v9 (n := 0) (b := r3) (as := [.ref r3]) (ar := []) rfl rfl rfl (Nat.le_of_ble_eq_true rfl) rfl rfl (Nat.le_of_ble_eq_true rfl) (of_decide_eq_true c5)) (sF_12 z7) ?_
      rcases db_e hB with ⟨q10, hB⟩ | ⟨q10, hB⟩
      · refine rg_bt (t := 197) (pc' := 181) rfl rfl q10 ?_
        exact sB_68_197 f  _ _ _ _ _ _ _ _ _ h6 _ hB
      · refine rg_bf (t := 197) (pc' := 181) rfl rfl q10 ?_
        refine rg_p rfl rfl ?_
        refine rg_p rfl rfl ?_
        obtain ⟨c11, hB⟩ := dg_e hB
        obtain ⟨r12, p13, hB⟩ := dp_e hB
        refine rg_gp rfl rfl rfl (of_decide_eq_true c11) p13 ?_
        refine rg_p rfl rfl ?_
        refine rg_ic (v := (3 : Int32)) rfl (by decide) ?_
        show rg 68 188 _ _ _ _
        refine rg_ic (v := (4 : Int32)) rfl (by decide) ?_
        refine rg_p rfl rfl ?_
        rcases dv_e hB with ⟨h14, z15, hB⟩ | ⟨q16, h14, z15, hB⟩
        · refine rg_call (rg_v9 (n := 5) (b := l0) (as := [.ref l0, .ref r12, .int l1, .int (3 : Int32), .int (4 : Int32), .int l7]) (ar := []) rfl rfl rfl (Nat.le_of_ble_eq_true rfl) rfl rfl (Nat.le_of_ble_eq_true rfl) (of_decide_eq_true c11)) (sF_69 z15) ?_
          refine rg_bi (v := (24 : Int32)) rfl (by decide) ?_
          cases hB
          exact rg_ri rfl rfl rfl
        · subst hB
          exact rg_callX (rg_v9 (n := 5) (b := l0) (as := [.ref l0, .ref r12, .int l1, .int (3 : Int32), .int (4 : Int32), .int l7]) (ar := []) rfl rfl rfl (Nat.le_of_ble_eq_true rfl) rfl rfl (Nat.le_of_ble_eq_true rfl) (of_decide_eq_true c11)) (sF_69 z15)
    · subst hB
      exact rg_callX (rg_v9 (n := 0) (b := r3) (as := [.ref r3]) (ar := []) rfl rfl rfl (Nat.le_of_ble_eq_true rfl) rfl rfl (Nat.le_of_ble_eq_true rfl) (of_decide_eq_true c5)) (sF_12 z7)
def B_68_30 (f : Nat) (h : hp_T) : Option ev_O := (some (.inl (some (.int (20 : Int32))), h))
theorem sB_68_30 (f : Nat) (w0 : Value) (w1 : Value) (w2 : Value) (w3 : Value) (w4 : Value) (w5 : Value) (w6 : Value) (w7 : Value) (w8 : Value) (h : hp_T) (o : ev_O) (hB : B_68_30 f  h = some o) : rg 68 30 [w0, w1, w2, w3, w4, w5, w6, w7, w8] [] h o := by
  unfold B_68_30 at hB
  refine rg_bi (v := (20 : Int32)) rfl (by decide) ?_
  cases hB
  exact rg_ri rfl rfl rfl
def F_68 (f : Nat) (a0 : Nat) (a1 : Int32) (h : hp_T) : Option ev_O := (dg (decide (hp_k h a0 = some (7, 0))) (dp (hp_p h a0 2) fun r2 => (dg (decide (hp_k h r2 = some (2, 0))) (di (F_19 f r2 h) fun v8 h5 => (db (ev_c .eq ((v8).toUInt32 >>> (((24 : Int32)).toUInt32 &&& Int32.toUInt32 31)).toInt32 0) (B_68_30 f   h5) (db (ev_c .eq ((v8).toUInt32 >>> (((24 : Int32)).toUInt32 &&& Int32.toUInt32 31)).toInt32 (127 : Int32)) (B_68_30 f   h5) (db (ev_c .le ((v8).toUInt32 >>> (((24 : Int32)).toUInt32 &&& Int32.toUInt32 31)).toInt32 (223 : Int32)) (dg (decide (hp_k h5 a0 = some (7, 0))) (dp (hp_p h5 a0 2) fun r13 => (dg (decide (hp_k h5 r13 = some (2, 0))) (di (F_16 f r13 h5) fun v19 h16 => (db (ev_c .ge v19 (2 : Int32)) (dg (decide (hp_k h16 a0 = some (7, 0))) (dp (hp_p h16 a0 1) fun r22 => (dg (decide (hp_k h16 r22 = some (4, 0))) (di (F_29 f r22 v8 h16) fun v28 h25 => (db (ev_c .ne v28 (-1 : Int32)) (dg (decide (hp_k h25 a0 = some (7, 0))) (dp (hp_p h25 a0 1) fun r31 => (dg (decide (hp_k h25 r31 = some (4, 0))) (dp (hp_p h25 r31 2) fun r34 => (dg (aib 64 h25 r34 v28) (dp (hp_p h25 a0 0) fun r37 => (dg (aib 103 h25 r37 (hp_z h25 r34 (Int32.toNatClampNeg v28))) (dp (hp_p h25 r37 (Int32.toNatClampNeg (hp_z h25 r34 (Int32.toNatClampNeg v28)))) fun r40 => (dg (decide (hp_k h25 r40 = some (3, 0))) (db (ev_c .ne (hp_z h25 r40 2) 0) (dp (hp_p h25 r37 (Int32.toNatClampNeg (hp_z h25 r34 (Int32.toNatClampNeg v28)))) fun r44 => (dg (decide (hp_k h25 r44 = some (3, 0))) (dp (hp_p h25 a0 2) fun r47 => (dg (decide (hp_k h25 r47 = some (2, 0))) (di (F_9 f r47 h25) fun v53 h50 => (db (ev_c .le v53 (hp_z h25 r44 1)) (B_68_164 f  a0 a1 v8 v19 v28 (hp_z h25 r34 (Int32.toNatClampNeg v28)) (hp_z h25 r44 1) (0 : Int32) h50) (B_68_164 f  a0 a1 v8 v19 v28 (hp_z h25 r34 (Int32.toNatClampNeg v28)) (hp_z h25 r44 1) (1 : Int32) h50))))))) (dp (hp_p h25 a0 2) fun r55 => (dv (F_69 f a0 r55 a1 (3 : Int32) (1 : Int32) (0 : Int32) h25) fun h57 => (some (.inl (some (.int (23 : Int32))), h57)))))))))))))) (dg (decide (hp_k h25 a0 = some (7, 0))) (dp (hp_p h25 a0 2) fun r61 => (dv (F_69 f a0 r61 a1 (3 : Int32) (0 : Int32) (0 : Int32) h25) fun h63 => (some (.inl (some (.int (22 : Int32))), h63)))))))))) (dg (decide (hp_k h16 a0 = some (7, 0))) (dp (hp_p h16 a0 2) fun r67 => (dv (F_69 f a0 r67 a1 (11 : Int32) (0 : Int32) (0 : Int32) h16) fun h69 => (some (.inl (some (.int (21 : Int32))), h69)))))))))) (B_68_30 f   h5))))))))
theorem sF_68 {f : Nat} {a0 : Nat} {a1 : Int32} {h : hp_T} {o : ev_O} (hB : F_68 f a0 a1 h = some o) : rm 68 [.ref a0, .int a1] h o := by
  unfold F_68 at hB
  refine rm_in (L := [.ref a0, .int a1, .null, .null, .null, .null, .null, .null, .null]) (Nat.le_of_ble_eq_true rfl) rfl ?_
  refine rg_p rfl rfl ?_
  obtain ⟨c1, hB⟩ := dg_e hB
  obtain ⟨r2, p3, hB⟩ := dp_e hB
  refine rg_gp rfl rfl rfl (of_decide_eq_true c1) p3 ?_
  obtain ⟨c4, hB⟩ := dg_e hB
  rcases di_e hB with ⟨v8, h5, z6, hB⟩ | ⟨q7, h5, z6, hB⟩
  · refine rg_call (rg_v9 (n := 0) (b := r2) (as := [.ref r2]) (ar := []) rfl rfl rfl (Nat.le_of_ble_eq_true rfl) rfl rfl (Nat.le_of_ble_eq_true rfl) (of_decide_eq_true c4)) (sF_19 z6) ?_
    refine rg_p (L' := [.ref a0, .int a1, .int v8, .null, .null, .null, .null, .null, .null]) rfl rfl ?_
    refine rg_p rfl rfl ?_
    refine rg_bi (v := (24 : Int32)) rfl (by decide) ?_
    refine rg_p rfl rfl ?_
    refine rg_p (L' := [.ref a0, .int a1, .int v8, .int ((v8).toUInt32 >>> (((24 : Int32)).toUInt32 &&& Int32.toUInt32 31)).toInt32, .null, .null, .null, .null, .null]) rfl rfl ?_
    show rg 68 13 _ _ _ _
    refine rg_p rfl rfl ?_
    rcases db_e hB with ⟨q9, hB⟩ | ⟨q9, hB⟩
    · refine rg_bt (t := 30) (pc' := 17) rfl rfl q9 ?_
      exact sB_68_30 f  _ _ _ _ _ _ _ _ _ h5 _ hB
    · refine rg_bf (t := 30) (pc' := 17) rfl rfl q9 ?_
      refine rg_p rfl rfl ?_
      refine rg_bi (v := (127 : Int32)) rfl (by decide) ?_
      rcases db_e hB with ⟨q10, hB⟩ | ⟨q10, hB⟩
      · refine rg_bt (t := 30) (pc' := 23) rfl rfl q10 ?_
        exact sB_68_30 f  _ _ _ _ _ _ _ _ _ h5 _ hB
      · refine rg_bf (t := 30) (pc' := 23) rfl rfl q10 ?_
        refine rg_p rfl rfl ?_
        refine rg_si (v := (223 : Int32)) rfl (by decide) ?_
        rcases db_e hB with ⟨q11, hB⟩ | ⟨q11, hB⟩
        · refine rg_bt (t := 33) (pc' := 30) rfl rfl q11 ?_
          refine rg_p rfl rfl ?_
          obtain ⟨c12, hB⟩ := dg_e hB
          obtain ⟨r13, p14, hB⟩ := dp_e hB
          refine rg_gp rfl rfl rfl (of_decide_eq_true c12) p14 ?_
          obtain ⟨c15, hB⟩ := dg_e hB
          rcases di_e hB with ⟨v19, h16, z17, hB⟩ | ⟨q18, h16, z17, hB⟩
          · refine rg_call (rg_v9 (n := 0) (b := r13) (as := [.ref r13]) (ar := []) rfl rfl rfl (Nat.le_of_ble_eq_true rfl) rfl rfl (Nat.le_of_ble_eq_true rfl) (of_decide_eq_true c15)) (sF_16 z17) ?_
            refine rg_p (L' := [.ref a0, .int a1, .int v8, .int ((v8).toUInt32 >>> (((24 : Int32)).toUInt32 &&& Int32.toUInt32 31)).toInt32, .int v19, .null, .null, .null, .null]) rfl rfl ?_
            refine rg_p rfl rfl ?_
            refine rg_ic (v := (2 : Int32)) rfl (by decide) ?_
            rcases db_e hB with ⟨q20, hB⟩ | ⟨q20, hB⟩
            · refine rg_bt (t := 64) (pc' := 48) rfl rfl q20 ?_
              refine rg_p rfl rfl ?_
              obtain ⟨c21, hB⟩ := dg_e hB
              obtain ⟨r22, p23, hB⟩ := dp_e hB
              refine rg_gp rfl rfl rfl (of_decide_eq_true c21) p23 ?_
              refine rg_p rfl rfl ?_
              obtain ⟨c24, hB⟩ := dg_e hB
              rcases di_e hB with ⟨v28, h25, z26, hB⟩ | ⟨q27, h25, z26, hB⟩
              · refine rg_call (rg_v9 (n := 1) (b := r22) (as := [.ref r22, .int v8]) (ar := []) rfl rfl rfl (Nat.le_of_ble_eq_true rfl) rfl rfl (Nat.le_of_ble_eq_true rfl) (of_decide_eq_true c24)) (sF_29 z26) ?_
                refine rg_p (L' := [.ref a0, .int a1, .int v8, .int ((v8).toUInt32 >>> (((24 : Int32)).toUInt32 &&& Int32.toUInt32 31)).toInt32, .int v19, .int v28, .null, .null, .null]) rfl rfl ?_
                refine rg_p rfl rfl ?_
                refine rg_ic (v := (-1 : Int32)) rfl (by decide) ?_
                rcases db_e hB with ⟨q29, hB⟩ | ⟨q29, hB⟩
                · refine rg_bt (t := 95) (pc' := 80) rfl rfl q29 ?_
                  refine rg_p rfl rfl ?_
                  obtain ⟨c30, hB⟩ := dg_e hB
                  obtain ⟨r31, p32, hB⟩ := dp_e hB
                  refine rg_gp rfl rfl rfl (of_decide_eq_true c30) p32 ?_
                  obtain ⟨c33, hB⟩ := dg_e hB
                  obtain ⟨r34, p35, hB⟩ := dp_e hB
                  refine rg_gp rfl rfl rfl (of_decide_eq_true c33) p35 ?_
                  refine rg_p rfl rfl ?_
                  obtain ⟨c36, hB⟩ := dg_e hB
                  refine rg_ia rfl (ai_of c36) ?_
                  show rg 68 105 _ _ _ _
                  refine rg_p (L' := [.ref a0, .int a1, .int v8, .int ((v8).toUInt32 >>> (((24 : Int32)).toUInt32 &&& Int32.toUInt32 31)).toInt32, .int v19, .int v28, .int (hp_z h25 r34 (Int32.toNatClampNeg v28)), .null, .null]) rfl rfl ?_
                  refine rg_p rfl rfl ?_
                  obtain ⟨r37, p38, hB⟩ := dp_e hB
                  refine rg_gp rfl rfl rfl (of_decide_eq_true c30) p38 ?_
                  refine rg_p rfl rfl ?_
                  obtain ⟨c39, hB⟩ := dg_e hB
                  obtain ⟨r40, p41, hB⟩ := dp_e hB
                  refine rg_aa (t := 103) (by decide) rfl (ai_of c39) p41 ?_
                  obtain ⟨c42, hB⟩ := dg_e hB
                  refine rg_gz rfl rfl rfl (of_decide_eq_true c42) ?_
                  show rg 68 117 _ _ _ _
                  rcases db_e hB with ⟨q43, hB⟩ | ⟨q43, hB⟩
                  · refine rg_bt (t := 135) (pc' := 120) rfl rfl q43 ?_
                    refine rg_p rfl rfl ?_
                    refine rg_gp rfl rfl rfl (of_decide_eq_true c30) p38 ?_
                    refine rg_p rfl rfl ?_
                    obtain ⟨r44, p45, hB⟩ := dp_e hB
                    refine rg_aa (t := 103) (by decide) rfl (ai_of c39) p45 ?_
                    obtain ⟨c46, hB⟩ := dg_e hB
                    refine rg_gz rfl rfl rfl (of_decide_eq_true c46) ?_
                    show rg 68 145 _ _ _ _
                    refine rg_p (L' := [.ref a0, .int a1, .int v8, .int ((v8).toUInt32 >>> (((24 : Int32)).toUInt32 &&& Int32.toUInt32 31)).toInt32, .int v19, .int v28, .int (hp_z h25 r34 (Int32.toNatClampNeg v28)), .int (hp_z h25 r44 1), .null]) rfl rfl ?_
                    refine rg_p rfl rfl ?_
                    obtain ⟨r47, p48, hB⟩ := dp_e hB
                    refine rg_gp rfl rfl rfl (of_decide_eq_true c30) p48 ?_
                    obtain ⟨c49, hB⟩ := dg_e hB
                    rcases di_e hB with ⟨v53, h50, z51, hB⟩ | ⟨q52, h50, z51, hB⟩
                    · refine rg_call (rg_v9 (n := 0) (b := r47) (as := [.ref r47]) (ar := []) rfl rfl rfl (Nat.le_of_ble_eq_true rfl) rfl rfl (Nat.le_of_ble_eq_true rfl) (of_decide_eq_true c49)) (sF_9 z51) ?_
                      refine rg_p rfl rfl ?_
                      rcases db_e hB with ⟨q54, hB⟩ | ⟨q54, hB⟩
                      · refine rg_bt (t := 163) (pc' := 159) rfl rfl q54 ?_
                        refine rg_ic (v := (0 : Int32)) rfl (by decide) ?_
                        exact sB_68_164 f  _ _ _ _ _ _ _ _ _ _ h50 _ hB
                      · refine rg_bf (t := 163) (pc' := 159) rfl rfl q54 ?_
                        refine rg_ic (v := (1 : Int32)) rfl (by decide) ?_
                        refine rg_p (pc' := 164) rfl rfl ?_
                        exact sB_68_164 f  _ _ _ _ _ _ _ _ _ _ h50 _ hB
                    · subst hB
                      exact rg_callX (rg_v9 (n := 0) (b := r47) (as := [.ref r47]) (ar := []) rfl rfl rfl (Nat.le_of_ble_eq_true rfl) rfl rfl (Nat.le_of_ble_eq_true rfl) (of_decide_eq_true c49)) (sF_9 z51)
                  · refine rg_bf (t := 135) (pc' := 120) rfl rfl q43 ?_
                    refine rg_p rfl rfl ?_
                    refine rg_p rfl rfl ?_
                    obtain ⟨r55, p56, hB⟩ := dp_e hB
                    refine rg_gp rfl rfl rfl (of_decide_eq_true c30) p56 ?_
                    refine rg_p rfl rfl ?_
                    refine rg_ic (v := (3 : Int32)) rfl (by decide) ?_
                    show rg 68 127 _ _ _ _
                    refine rg_ic (v := (1 : Int32)) rfl (by decide) ?_
                    refine rg_ic (v := (0 : Int32)) rfl (by decide) ?_
                    rcases dv_e hB with ⟨h57, z58, hB⟩ | ⟨q59, h57, z58, hB⟩
                    · refine rg_call (rg_v9 (n := 5) (b := a0) (as := [.ref a0, .ref r55, .int a1, .int (3 : Int32), .int (1 : Int32), .int (0 : Int32)]) (ar := []) rfl rfl rfl (Nat.le_of_ble_eq_true rfl) rfl rfl (Nat.le_of_ble_eq_true rfl) (of_decide_eq_true c30)) (sF_69 z58) ?_
                      refine rg_bi (v := (23 : Int32)) rfl (by decide) ?_
                      cases hB
                      exact rg_ri rfl rfl rfl
                    · subst hB
                      exact rg_callX (rg_v9 (n := 5) (b := a0) (as := [.ref a0, .ref r55, .int a1, .int (3 : Int32), .int (1 : Int32), .int (0 : Int32)]) (ar := []) rfl rfl rfl (Nat.le_of_ble_eq_true rfl) rfl rfl (Nat.le_of_ble_eq_true rfl) (of_decide_eq_true c30)) (sF_69 z58)
                · refine rg_bf (t := 95) (pc' := 80) rfl rfl q29 ?_
                  refine rg_p rfl rfl ?_
                  refine rg_p rfl rfl ?_
                  obtain ⟨c60, hB⟩ := dg_e hB
                  obtain ⟨r61, p62, hB⟩ := dp_e hB
                  refine rg_gp rfl rfl rfl (of_decide_eq_true c60) p62 ?_
                  refine rg_p rfl rfl ?_
                  refine rg_ic (v := (3 : Int32)) rfl (by decide) ?_
                  show rg 68 87 _ _ _ _
                  refine rg_ic (v := (0 : Int32)) rfl (by decide) ?_
                  refine rg_ic (v := (0 : Int32)) rfl (by decide) ?_
                  rcases dv_e hB with ⟨h63, z64, hB⟩ | ⟨q65, h63, z64, hB⟩
                  · refine rg_call (rg_v9 (n := 5) (b := a0) (as := [.ref a0, .ref r61, .int a1, .int (3 : Int32), .int (0 : Int32), .int (0 : Int32)]) (ar := []) rfl rfl rfl (Nat.le_of_ble_eq_true rfl) rfl rfl (Nat.le_of_ble_eq_true rfl) (of_decide_eq_true c60)) (sF_69 z64) ?_
                    refine rg_bi (v := (22 : Int32)) rfl (by decide) ?_
                    cases hB
                    exact rg_ri rfl rfl rfl
                  · subst hB
                    exact rg_callX (rg_v9 (n := 5) (b := a0) (as := [.ref a0, .ref r61, .int a1, .int (3 : Int32), .int (0 : Int32), .int (0 : Int32)]) (ar := []) rfl rfl rfl (Nat.le_of_ble_eq_true rfl) rfl rfl (Nat.le_of_ble_eq_true rfl) (of_decide_eq_true c60)) (sF_69 z64)
              · subst hB
                exact rg_callX (rg_v9 (n := 1) (b := r22) (as := [.ref r22, .int v8]) (ar := []) rfl rfl rfl (Nat.le_of_ble_eq_true rfl) rfl rfl (Nat.le_of_ble_eq_true rfl) (of_decide_eq_true c24)) (sF_29 z26)
            · refine rg_bf (t := 64) (pc' := 48) rfl rfl q20 ?_
              refine rg_p rfl rfl ?_
              refine rg_p rfl rfl ?_
              obtain ⟨c66, hB⟩ := dg_e hB
              obtain ⟨r67, p68, hB⟩ := dp_e hB
              refine rg_gp rfl rfl rfl (of_decide_eq_true c66) p68 ?_
              refine rg_p rfl rfl ?_
              refine rg_bi (v := (11 : Int32)) rfl (by decide) ?_
              show rg 68 56 _ _ _ _
              refine rg_ic (v := (0 : Int32)) rfl (by decide) ?_
              refine rg_ic (v := (0 : Int32)) rfl (by decide) ?_
              rcases dv_e hB with ⟨h69, z70, hB⟩ | ⟨q71, h69, z70, hB⟩
              · refine rg_call (rg_v9 (n := 5) (b := a0) (as := [.ref a0, .ref r67, .int a1, .int (11 : Int32), .int (0 : Int32), .int (0 : Int32)]) (ar := []) rfl rfl rfl (Nat.le_of_ble_eq_true rfl) rfl rfl (Nat.le_of_ble_eq_true rfl) (of_decide_eq_true c66)) (sF_69 z70) ?_
                refine rg_bi (v := (21 : Int32)) rfl (by decide) ?_
                cases hB
                exact rg_ri rfl rfl rfl
              · subst hB
                exact rg_callX (rg_v9 (n := 5) (b := a0) (as := [.ref a0, .ref r67, .int a1, .int (11 : Int32), .int (0 : Int32), .int (0 : Int32)]) (ar := []) rfl rfl rfl (Nat.le_of_ble_eq_true rfl) rfl rfl (Nat.le_of_ble_eq_true rfl) (of_decide_eq_true c66)) (sF_69 z70)
          · subst hB
            exact rg_callX (rg_v9 (n := 0) (b := r13) (as := [.ref r13]) (ar := []) rfl rfl rfl (Nat.le_of_ble_eq_true rfl) rfl rfl (Nat.le_of_ble_eq_true rfl) (of_decide_eq_true c15)) (sF_16 z17)
        · refine rg_bf (t := 33) (pc' := 30) rfl rfl q11 ?_
          exact sB_68_30 f  _ _ _ _ _ _ _ _ _ h5 _ hB
  · subst hB
    exact rg_callX (rg_v9 (n := 0) (b := r2) (as := [.ref r2]) (ar := []) rfl rfl rfl (Nat.le_of_ble_eq_true rfl) rfl rfl (Nat.le_of_ble_eq_true rfl) (of_decide_eq_true c4)) (sF_19 z6)
-- 65: RouteHouse.takeSound(I)I
def B_65_59 (f : Nat) (s0 : Int32) (h : hp_T) : Option ev_O := (some (.inl (some (.int s0)), h))
theorem sB_65_59 (f : Nat) (s0 : Int32) (w0 : Value) (w1 : Value) (w2 : Value) (h : hp_T) (o : ev_O) (hB : B_65_59 f s0 h = some o) : rg 65 59 [w0, w1, w2] [.int s0] h o := by
  unfold B_65_59 at hB
  cases hB
  exact rg_ri rfl rfl rfl
def F_65 (f : Nat) (a0 : Nat) (a1 : Int32) (h : hp_T) : Option ev_O := (dg (decide (hp_k h a0 = some (7, 0))) (dp (hp_p h a0 2) fun r2 => (dg (decide (hp_k h r2 = some (2, 0))) (di (F_21 f r2 h) fun v8 h5 => (db (ev_c .eq v8 (-1 : Int32)) (dg (decide (hp_k h5 a0 = some (7, 0))) (dp (hp_p h5 a0 2) fun r11 => (dg (decide (hp_k h5 r11 = some (2, 0))) (di (F_19 f r11 h5) fun v17 h14 => (dg (decide (hp_k h14 a0 = some (7, 0))) (di (F_66 f a0 v17 h14) fun v22 h19 => (db (ev_c .eq v22 0) (dg (decide (hp_k h19 a0 = some (7, 0))) (di (F_68 f a0 a1 h19) fun v28 h25 => (B_65_59 f  v28 h25))) (dg (decide (hp_k h19 a0 = some (7, 0))) (di (F_67 f a0 a1 h19) fun v33 h30 => (B_65_59 f  v33 h30)))))))))) (dg (decide (hp_k h5 a0 = some (7, 0))) (dp (hp_p h5 a0 2) fun r35 => (dv (F_69 f a0 r35 a1 (12 : Int32) (0 : Int32) (v8 <<< ((24 : Int32) &&& 31)) h5) fun h37 => (some (.inl (some (.int (7 : Int32))), h37))))))))))
theorem sF_65 {f : Nat} {a0 : Nat} {a1 : Int32} {h : hp_T} {o : ev_O} (hB : F_65 f a0 a1 h = some o) : rm 65 [.ref a0, .int a1] h o := by
  unfold F_65 at hB
  refine rm_in (L := [.ref a0, .int a1, .null]) (Nat.le_of_ble_eq_true rfl) rfl ?_
  refine rg_p rfl rfl ?_
  obtain ⟨c1, hB⟩ := dg_e hB
  obtain ⟨r2, p3, hB⟩ := dp_e hB
  refine rg_gp rfl rfl rfl (of_decide_eq_true c1) p3 ?_
  obtain ⟨c4, hB⟩ := dg_e hB
  rcases di_e hB with ⟨v8, h5, z6, hB⟩ | ⟨q7, h5, z6, hB⟩
  · refine rg_call (rg_v9 (n := 0) (b := r2) (as := [.ref r2]) (ar := []) rfl rfl rfl (Nat.le_of_ble_eq_true rfl) rfl rfl (Nat.le_of_ble_eq_true rfl) (of_decide_eq_true c4)) (sF_21 z6) ?_
    refine rg_p (L' := [.ref a0, .int a1, .int v8]) rfl rfl ?_
    refine rg_p rfl rfl ?_
    refine rg_ic (v := (-1 : Int32)) rfl (by decide) ?_
    rcases db_e hB with ⟨q9, hB⟩ | ⟨q9, hB⟩
    · refine rg_bt (t := 32) (pc' := 13) rfl rfl q9 ?_
      refine rg_p rfl rfl ?_
      refine rg_p rfl rfl ?_
      obtain ⟨c10, hB⟩ := dg_e hB
      obtain ⟨r11, p12, hB⟩ := dp_e hB
      refine rg_gp rfl rfl rfl (of_decide_eq_true c10) p12 ?_
      obtain ⟨c13, hB⟩ := dg_e hB
      rcases di_e hB with ⟨v17, h14, z15, hB⟩ | ⟨q16, h14, z15, hB⟩
      · refine rg_call (rg_v9 (n := 0) (b := r11) (as := [.ref r11]) (ar := []) rfl rfl rfl (Nat.le_of_ble_eq_true rfl) rfl rfl (Nat.le_of_ble_eq_true rfl) (of_decide_eq_true c13)) (sF_19 z15) ?_
        obtain ⟨c18, hB⟩ := dg_e hB
        rcases di_e hB with ⟨v22, h19, z20, hB⟩ | ⟨q21, h19, z20, hB⟩
        · refine rg_call (rg_v9 (n := 1) (b := a0) (as := [.ref a0, .int v17]) (ar := []) rfl rfl rfl (Nat.le_of_ble_eq_true rfl) rfl rfl (Nat.le_of_ble_eq_true rfl) (of_decide_eq_true c18)) (sF_66 z20) ?_
          rcases db_e hB with ⟨q23, hB⟩ | ⟨q23, hB⟩
          · refine rg_bt (t := 54) (pc' := 46) rfl rfl q23 ?_
            refine rg_p rfl rfl ?_
            refine rg_p rfl rfl ?_
            obtain ⟨c24, hB⟩ := dg_e hB
            rcases di_e hB with ⟨v28, h25, z26, hB⟩ | ⟨q27, h25, z26, hB⟩
            · refine rg_call (rg_v9 (n := 1) (b := a0) (as := [.ref a0, .int a1]) (ar := []) rfl rfl rfl (Nat.le_of_ble_eq_true rfl) rfl rfl (Nat.le_of_ble_eq_true rfl) (of_decide_eq_true c24)) (sF_68 z26) ?_
              exact sB_65_59 f  _ _ _ _ h25 _ hB
            · subst hB
              exact rg_callX (rg_v9 (n := 1) (b := a0) (as := [.ref a0, .int a1]) (ar := []) rfl rfl rfl (Nat.le_of_ble_eq_true rfl) rfl rfl (Nat.le_of_ble_eq_true rfl) (of_decide_eq_true c24)) (sF_68 z26)
          · refine rg_bf (t := 54) (pc' := 46) rfl rfl q23 ?_
            refine rg_p rfl rfl ?_
            refine rg_p rfl rfl ?_
            obtain ⟨c29, hB⟩ := dg_e hB
            rcases di_e hB with ⟨v33, h30, z31, hB⟩ | ⟨q32, h30, z31, hB⟩
            · refine rg_call (rg_v9 (n := 1) (b := a0) (as := [.ref a0, .int a1]) (ar := []) rfl rfl rfl (Nat.le_of_ble_eq_true rfl) rfl rfl (Nat.le_of_ble_eq_true rfl) (of_decide_eq_true c29)) (sF_67 z31) ?_
              refine rg_p (pc' := 59) rfl rfl ?_
              exact sB_65_59 f  _ _ _ _ h30 _ hB
            · subst hB
              exact rg_callX (rg_v9 (n := 1) (b := a0) (as := [.ref a0, .int a1]) (ar := []) rfl rfl rfl (Nat.le_of_ble_eq_true rfl) rfl rfl (Nat.le_of_ble_eq_true rfl) (of_decide_eq_true c29)) (sF_67 z31)
        · subst hB
          exact rg_callX (rg_v9 (n := 1) (b := a0) (as := [.ref a0, .int v17]) (ar := []) rfl rfl rfl (Nat.le_of_ble_eq_true rfl) rfl rfl (Nat.le_of_ble_eq_true rfl) (of_decide_eq_true c18)) (sF_66 z20)
      · subst hB
        exact rg_callX (rg_v9 (n := 0) (b := r11) (as := [.ref r11]) (ar := []) rfl rfl rfl (Nat.le_of_ble_eq_true rfl) rfl rfl (Nat.le_of_ble_eq_true rfl) (of_decide_eq_true c13)) (sF_19 z15)
    · refine rg_bf (t := 32) (pc' := 13) rfl rfl q9 ?_
      refine rg_p rfl rfl ?_
      refine rg_p rfl rfl ?_
      obtain ⟨c34, hB⟩ := dg_e hB
      obtain ⟨r35, p36, hB⟩ := dp_e hB
      refine rg_gp rfl rfl rfl (of_decide_eq_true c34) p36 ?_
      refine rg_p rfl rfl ?_
      refine rg_bi (v := (12 : Int32)) rfl (by decide) ?_
      show rg 65 21 _ _ _ _
      refine rg_ic (v := (0 : Int32)) rfl (by decide) ?_
      refine rg_p rfl rfl ?_
      refine rg_bi (v := (24 : Int32)) rfl (by decide) ?_
      refine rg_p rfl rfl ?_
      rcases dv_e hB with ⟨h37, z38, hB⟩ | ⟨q39, h37, z38, hB⟩
      · refine rg_call (rg_v9 (n := 5) (b := a0) (as := [.ref a0, .ref r35, .int a1, .int (12 : Int32), .int (0 : Int32), .int (v8 <<< ((24 : Int32) &&& 31))]) (ar := []) rfl rfl rfl (Nat.le_of_ble_eq_true rfl) rfl rfl (Nat.le_of_ble_eq_true rfl) (of_decide_eq_true c34)) (sF_69 z38) ?_
        refine rg_bi (v := (7 : Int32)) rfl (by decide) ?_
        cases hB
        exact rg_ri rfl rfl rfl
      · subst hB
        exact rg_callX (rg_v9 (n := 5) (b := a0) (as := [.ref a0, .ref r35, .int a1, .int (12 : Int32), .int (0 : Int32), .int (v8 <<< ((24 : Int32) &&& 31))]) (ar := []) rfl rfl rfl (Nat.le_of_ble_eq_true rfl) rfl rfl (Nat.le_of_ble_eq_true rfl) (of_decide_eq_true c34)) (sF_69 z38)
  · subst hB
    exact rg_callX (rg_v9 (n := 0) (b := r2) (as := [.ref r2]) (ar := []) rfl rfl rfl (Nat.le_of_ble_eq_true rfl) rfl rfl (Nat.le_of_ble_eq_true rfl) (of_decide_eq_true c4)) (sF_21 z6)
-- 56: RouteHouse.receive(I)I
def B_56_30 (f : Nat) (l0 : Nat) (l2 : Int32) (h : hp_T) : Option ev_O := (dg (decide (hp_k h l0 = some (7, 0))) (dp (hp_p h l0 2) fun r2 => (dg (decide (hp_k h r2 = some (2, 0))) (dl (wz h r2 1 (0 : Int32)) fun h5 => (some (.inl (some (.int l2)), h5))))))
theorem sB_56_30 (f : Nat) (l0 : Nat) (l2 : Int32) (w1 : Value) (h : hp_T) (o : ev_O) (hB : B_56_30 f l0 l2 h = some o) : rg 56 30 [.ref l0, w1, .int l2] [] h o := by
  unfold B_56_30 at hB
  refine rg_p rfl rfl ?_
  obtain ⟨c1, hB⟩ := dg_e hB
  obtain ⟨r2, p3, hB⟩ := dp_e hB
  refine rg_gp rfl rfl rfl (of_decide_eq_true c1) p3 ?_
  refine rg_ic (v := (0 : Int32)) rfl (by decide) ?_
  obtain ⟨c4, hB⟩ := dg_e hB
  obtain ⟨h5, e6, hB⟩ := dl_e hB
  refine rg_pi rfl rfl rfl (of_decide_eq_true c4) e6 ?_
  refine rg_p rfl rfl ?_
  show rg 56 39 _ _ _ _
  cases hB
  exact rg_ri rfl rfl rfl
def F_56 (f : Nat) (a0 : Nat) (a1 : Int32) (h : hp_T) : Option ev_O := (dg (decide (hp_k h a0 = some (7, 0))) (dv (F_62 f a0 a1 h) fun h2 => (dg (decide (hp_k h2 a0 = some (7, 0))) (dp (hp_p h2 a0 5) fun r6 => (dg (decide (hp_k h2 r6 = some (1, 0))) (dv (F_3 f r6 h2) fun h9 => (dg (decide (hp_k h9 a0 = some (7, 0))) (dp (hp_p h9 a0 2) fun r13 => (dg (decide (hp_k h9 r13 = some (2, 0))) (di (F_20 f r13 h9) fun v19 h16 => (db (ev_c .ne v19 0) (B_56_30 f  a0 v19 h16) (dg (decide (hp_k h16 a0 = some (7, 0))) (di (F_65 f a0 a1 h16) fun v25 h22 => (B_56_30 f  a0 v25 h22))))))))))))))
theorem sF_56 {f : Nat} {a0 : Nat} {a1 : Int32} {h : hp_T} {o : ev_O} (hB : F_56 f a0 a1 h = some o) : rm 56 [.ref a0, .int a1] h o := by
  unfold F_56 at hB
  refine rm_in (L := [.ref a0, .int a1, .null]) (Nat.le_of_ble_eq_true rfl) rfl ?_
  refine rg_p rfl rfl ?_
  refine rg_p rfl rfl ?_
  obtain ⟨c1, hB⟩ := dg_e hB
  rcases dv_e hB with ⟨h2, z3, hB⟩ | ⟨q4, h2, z3, hB⟩
  · refine rg_call (rg_v9 (n := 1) (b := a0) (as := [.ref a0, .int a1]) (ar := []) rfl rfl rfl (Nat.le_of_ble_eq_true rfl) rfl rfl (Nat.le_of_ble_eq_true rfl) (of_decide_eq_true c1)) (sF_62 z3) ?_
    refine rg_p rfl rfl ?_
    obtain ⟨c5, hB⟩ := dg_e hB
    obtain ⟨r6, p7, hB⟩ := dp_e hB
    refine rg_gp rfl rfl rfl (of_decide_eq_true c5) p7 ?_
    obtain ⟨c8, hB⟩ := dg_e hB
    rcases dv_e hB with ⟨h9, z10, hB⟩ | ⟨q11, h9, z10, hB⟩
    · refine rg_call (rg_v9 (n := 0) (b := r6) (as := [.ref r6]) (ar := []) rfl rfl rfl (Nat.le_of_ble_eq_true rfl) rfl rfl (Nat.le_of_ble_eq_true rfl) (of_decide_eq_true c8)) (sF_3 z10) ?_
      refine rg_p rfl rfl ?_
      obtain ⟨c12, hB⟩ := dg_e hB
      obtain ⟨r13, p14, hB⟩ := dp_e hB
      refine rg_gp rfl rfl rfl (of_decide_eq_true c12) p14 ?_
      obtain ⟨c15, hB⟩ := dg_e hB
      rcases di_e hB with ⟨v19, h16, z17, hB⟩ | ⟨q18, h16, z17, hB⟩
      · refine rg_call (rg_v9 (n := 0) (b := r13) (as := [.ref r13]) (ar := []) rfl rfl rfl (Nat.le_of_ble_eq_true rfl) rfl rfl (Nat.le_of_ble_eq_true rfl) (of_decide_eq_true c15)) (sF_20 z17) ?_
        refine rg_p (L' := [.ref a0, .int a1, .int v19]) rfl rfl ?_
        refine rg_p rfl rfl ?_
        rcases db_e hB with ⟨q20, hB⟩ | ⟨q20, hB⟩
        · refine rg_bt (t := 30) (pc' := 24) rfl rfl q20 ?_
          exact sB_56_30 f  _ _ _ h16 _ hB
        · refine rg_bf (t := 30) (pc' := 24) rfl rfl q20 ?_
          refine rg_p rfl rfl ?_
          refine rg_p rfl rfl ?_
          obtain ⟨c21, hB⟩ := dg_e hB
          rcases di_e hB with ⟨v25, h22, z23, hB⟩ | ⟨q24, h22, z23, hB⟩
          · refine rg_call (rg_v9 (n := 1) (b := a0) (as := [.ref a0, .int a1]) (ar := []) rfl rfl rfl (Nat.le_of_ble_eq_true rfl) rfl rfl (Nat.le_of_ble_eq_true rfl) (of_decide_eq_true c21)) (sF_65 z23) ?_
            refine rg_p (L' := [.ref a0, .int a1, .int v25]) rfl rfl ?_
            exact sB_56_30 f  _ _ _ h22 _ hB
          · subst hB
            exact rg_callX (rg_v9 (n := 1) (b := a0) (as := [.ref a0, .int a1]) (ar := []) rfl rfl rfl (Nat.le_of_ble_eq_true rfl) rfl rfl (Nat.le_of_ble_eq_true rfl) (of_decide_eq_true c21)) (sF_65 z23)
      · subst hB
        exact rg_callX (rg_v9 (n := 0) (b := r13) (as := [.ref r13]) (ar := []) rfl rfl rfl (Nat.le_of_ble_eq_true rfl) rfl rfl (Nat.le_of_ble_eq_true rfl) (of_decide_eq_true c15)) (sF_20 z17)
    · subst hB
      exact rg_callX (rg_v9 (n := 0) (b := r6) (as := [.ref r6]) (ar := []) rfl rfl rfl (Nat.le_of_ble_eq_true rfl) rfl rfl (Nat.le_of_ble_eq_true rfl) (of_decide_eq_true c8)) (sF_3 z10)
  · subst hB
    exact rg_callX (rg_v9 (n := 1) (b := a0) (as := [.ref a0, .int a1]) (ar := []) rfl rfl rfl (Nat.le_of_ble_eq_true rfl) rfl rfl (Nat.le_of_ble_eq_true rfl) (of_decide_eq_true c1)) (sF_62 z3)
-- 72: RouteHouse.passOne()V
def B_72_107 (f : Nat) (h : hp_T) : Option ev_O := (some (.inl none, h))
theorem sB_72_107 (f : Nat) (w0 : Value) (w1 : Value) (w2 : Value) (h : hp_T) (o : ev_O) (hB : B_72_107 f  h = some o) : rg 72 107 [w0, w1, w2] [] h o := by
  unfold B_72_107 at hB
  cases hB
  exact rg_rv rfl rfl
def B_72_93 (f : Nat) (C41 : Nat → Int32 → hp_T → Option ev_O) (l0 : Nat) (l1 : Int32) (h : hp_T) : Option ev_O := (dg (decide (hp_k h l0 = some (7, 0))) (dp (hp_p h l0 6) fun r2 => (dg (decide (hp_k h r2 = some (6, 0))) (dv (F_42 f r2 (0 : Int32) h) fun h5 => (C41 l0 (l1 + (1 : Int32)) h5)))))
theorem sB_72_93 (f : Nat) (C41 : Nat → Int32 → hp_T → Option ev_O) (hC41 : ∀ (l0 : Nat) (l1 : Int32) (w2 : Value) (h : hp_T) (o : ev_O), C41 l0 l1 h = some o → rg 72 41 [.ref l0, .int l1, w2] [] h o) (l0 : Nat) (l1 : Int32) (w2 : Value) (h : hp_T) (o : ev_O) (hB : B_72_93 f C41 l0 l1 h = some o) : rg 72 93 [.ref l0, .int l1, w2] [] h o := by
  unfold B_72_93 at hB
  refine rg_p rfl rfl ?_
  obtain ⟨c1, hB⟩ := dg_e hB
  obtain ⟨r2, p3, hB⟩ := dp_e hB
  refine rg_gp rfl rfl rfl (of_decide_eq_true c1) p3 ?_
  refine rg_ic (v := (0 : Int32)) rfl (by decide) ?_
  obtain ⟨c4, hB⟩ := dg_e hB
  rcases dv_e hB with ⟨h5, z6, hB⟩ | ⟨q7, h5, z6, hB⟩
  · refine rg_call (rg_v9 (n := 1) (b := r2) (as := [.ref r2, .int (0 : Int32)]) (ar := []) rfl rfl rfl (Nat.le_of_ble_eq_true rfl) rfl rfl (Nat.le_of_ble_eq_true rfl) (of_decide_eq_true c4)) (sF_42 z6) ?_
    refine rg_p (L' := [.ref l0, .int (l1 + (1 : Int32)), w2]) rfl rfl ?_
    refine rg_p (pc' := 41) rfl rfl ?_
    exact hC41 _ _ _ h5 _ hB
  · subst hB
    exact rg_callX (rg_v9 (n := 1) (b := r2) (as := [.ref r2, .int (0 : Int32)]) (ar := []) rfl rfl rfl (Nat.le_of_ble_eq_true rfl) rfl rfl (Nat.le_of_ble_eq_true rfl) (of_decide_eq_true c4)) (sF_42 z6)
def B_72_41 (f : Nat) : Nat → Nat → Int32 → hp_T → Option ev_O
  | 0, _, _, _ => none
  | g + 1, l0, l1, h => (db (ev_c .ge l1 (4 : Int32)) (B_72_107 f   h) (dg (decide (hp_k h l0 = some (7, 0))) (dp (hp_p h l0 6) fun r3 => (dg (decide (hp_k h r3 = some (6, 0))) (di (F_41 f r3 (hp_z h l0 10) h) fun v9 h6 => (db (ev_c .eq v9 0) (B_72_107 f   h6) (dg (decide (hp_k h6 l0 = some (7, 0))) (dp (hp_p h6 l0 6) fun r12 => (dg (decide (hp_k h6 r12 = some (6, 0))) (dp (hp_p h6 r12 0) fun r15 => (dg (aib 105 h6 r15 (0 : Int32)) (dp (hp_p h6 r15 (Int32.toNatClampNeg (0 : Int32))) fun r18 => (dg (decide (hp_k h6 r18 = some (5, 0))) (db (ev_c .eq (hp_z h6 r18 3) 0) (B_72_93 f (B_72_41 f g) l0 l1 h6) (dp (hp_p h6 r18 0) fun r22 => (dv (F_69 f l0 r22 (hp_z h6 r18 4) (11 : Int32) (1 : Int32) (0 : Int32) h6) fun h24 => (B_72_93 f (B_72_41 f g) l0 l1 h24)))))))))))))))))
theorem sB_72_41 (f : Nat) : ∀ (g : Nat) (l0 : Nat) (l1 : Int32) (w2 : Value) (h : hp_T) (o : ev_O), B_72_41 f g l0 l1 h = some o → rg 72 41 [.ref l0, .int l1, w2] [] h o := by
  intro g
  induction g with
  | zero =>
    intro l0 l1 w2 h o hB
    rw [B_72_41] at hB
    cases hB
  | succ g ih =>
    intro l0 l1 w2 h o hB
    rw [B_72_41] at hB
    refine rg_p rfl rfl ?_
    refine rg_ic (v := (4 : Int32)) rfl (by decide) ?_
    rcases db_e hB with ⟨q1, hB⟩ | ⟨q1, hB⟩
    · refine rg_bt (t := 107) (pc' := 46) rfl rfl q1 ?_
      exact sB_72_107 f  _ _ _ h _ hB
    · refine rg_bf (t := 107) (pc' := 46) rfl rfl q1 ?_
      refine rg_p rfl rfl ?_
      obtain ⟨c2, hB⟩ := dg_e hB
      obtain ⟨r3, p4, hB⟩ := dp_e hB
      refine rg_gp rfl rfl rfl (of_decide_eq_true c2) p4 ?_
      refine rg_p rfl rfl ?_
      refine rg_gz rfl rfl rfl (of_decide_eq_true c2) ?_
      obtain ⟨c5, hB⟩ := dg_e hB
      rcases di_e hB with ⟨v9, h6, z7, hB⟩ | ⟨q8, h6, z7, hB⟩
      · refine rg_call (rg_v9 (n := 1) (b := r3) (as := [.ref r3, .int (hp_z h l0 10)]) (ar := []) rfl rfl rfl (Nat.le_of_ble_eq_true rfl) rfl rfl (Nat.le_of_ble_eq_true rfl) (of_decide_eq_true c5)) (sF_41 z7) ?_
        rcases db_e hB with ⟨q10, hB⟩ | ⟨q10, hB⟩
        · refine rg_bt (t := 107) (pc' := 60) rfl rfl q10 ?_
          exact sB_72_107 f  _ _ _ h6 _ hB
        · refine rg_bf (t := 107) (pc' := 60) rfl rfl q10 ?_
          refine rg_p rfl rfl ?_
          obtain ⟨c11, hB⟩ := dg_e hB
          obtain ⟨r12, p13, hB⟩ := dp_e hB
          refine rg_gp rfl rfl rfl (of_decide_eq_true c11) p13 ?_
          obtain ⟨c14, hB⟩ := dg_e hB
          obtain ⟨r15, p16, hB⟩ := dp_e hB
          refine rg_gp rfl rfl rfl (of_decide_eq_true c14) p16 ?_
          refine rg_ic (v := (0 : Int32)) rfl (by decide) ?_
          obtain ⟨c17, hB⟩ := dg_e hB
          obtain ⟨r18, p19, hB⟩ := dp_e hB
          refine rg_aa (t := 105) (by decide) rfl (ai_of c17) p19 ?_
          show rg 72 69 _ _ _ _
          refine rg_p (L' := [.ref l0, .int l1, .ref r18]) rfl rfl ?_
          refine rg_p rfl rfl ?_
          obtain ⟨c20, hB⟩ := dg_e hB
          refine rg_gz rfl rfl rfl (of_decide_eq_true c20) ?_
          rcases db_e hB with ⟨q21, hB⟩ | ⟨q21, hB⟩
          · refine rg_bt (t := 93) (pc' := 77) rfl rfl q21 ?_
            exact sB_72_93 f (B_72_41 f g) ih _ _ _ h6 _ hB
          · refine rg_bf (t := 93) (pc' := 77) rfl rfl q21 ?_
            refine rg_p rfl rfl ?_
            refine rg_p rfl rfl ?_
            obtain ⟨r22, p23, hB⟩ := dp_e hB
            refine rg_gp rfl rfl rfl (of_decide_eq_true c20) p23 ?_
            refine rg_p rfl rfl ?_
            refine rg_gz rfl rfl rfl (of_decide_eq_true c20) ?_
            show rg 72 86 _ _ _ _
            refine rg_bi (v := (11 : Int32)) rfl (by decide) ?_
            refine rg_ic (v := (1 : Int32)) rfl (by decide) ?_
            refine rg_ic (v := (0 : Int32)) rfl (by decide) ?_
            rcases dv_e hB with ⟨h24, z25, hB⟩ | ⟨q26, h24, z25, hB⟩
            · refine rg_call (rg_v9 (n := 5) (b := l0) (as := [.ref l0, .ref r22, .int (hp_z h6 r18 4), .int (11 : Int32), .int (1 : Int32), .int (0 : Int32)]) (ar := []) rfl rfl rfl (Nat.le_of_ble_eq_true rfl) rfl rfl (Nat.le_of_ble_eq_true rfl) (of_decide_eq_true c11)) (sF_69 z25) ?_
              exact sB_72_93 f (B_72_41 f g) ih _ _ _ h24 _ hB
            · subst hB
              exact rg_callX (rg_v9 (n := 5) (b := l0) (as := [.ref l0, .ref r22, .int (hp_z h6 r18 4), .int (11 : Int32), .int (1 : Int32), .int (0 : Int32)]) (ar := []) rfl rfl rfl (Nat.le_of_ble_eq_true rfl) rfl rfl (Nat.le_of_ble_eq_true rfl) (of_decide_eq_true c11)) (sF_69 z25)
      · subst hB
        exact rg_callX (rg_v9 (n := 1) (b := r3) (as := [.ref r3, .int (hp_z h l0 10)]) (ar := []) rfl rfl rfl (Nat.le_of_ble_eq_true rfl) rfl rfl (Nat.le_of_ble_eq_true rfl) (of_decide_eq_true c5)) (sF_41 z7)
def B_72_39 (f : Nat) (l0 : Nat) (h : hp_T) : Option ev_O := (B_72_41 f  f l0 (0 : Int32) h)
theorem sB_72_39 (f : Nat) (l0 : Nat) (w1 : Value) (w2 : Value) (h : hp_T) (o : ev_O) (hB : B_72_39 f l0 h = some o) : rg 72 39 [.ref l0, w1, w2] [] h o := by
  unfold B_72_39 at hB
  refine rg_ic (v := (0 : Int32)) rfl (by decide) ?_
  refine rg_p (L' := [.ref l0, .int (0 : Int32), w2]) rfl rfl ?_
  exact sB_72_41 f  f _ _ _ h _ hB
def F_72 (f : Nat) (a0 : Nat) (h : hp_T) : Option ev_O := (dg (decide (hp_k h a0 = some (7, 0))) (dl (wz h a0 10 ((hp_z h a0 10) + (1 : Int32))) fun h2 => (dg (decide (hp_k h2 a0 = some (7, 0))) (db (ev_c .ne ((hp_z h2 a0 10) - (hp_z h2 a0 10) / (10 : Int32) * (10 : Int32)) 0) (B_72_39 f  a0 h2) (db (ev_c .ge (hp_z h2 a0 8) (6 : Int32)) (B_72_39 f  a0 h2) (dl (wz h2 a0 8 ((hp_z h2 a0 8) + (1 : Int32))) fun h7 => (B_72_39 f  a0 h7)))))))
theorem sF_72 {f : Nat} {a0 : Nat} {h : hp_T} {o : ev_O} (hB : F_72 f a0 h = some o) : rm 72 [.ref a0] h o := by
  unfold F_72 at hB
  refine rm_in (L := [.ref a0, .null, .null]) (Nat.le_of_ble_eq_true rfl) rfl ?_
  refine rg_p rfl rfl ?_
  refine rg_p rfl rfl ?_
  obtain ⟨c1, hB⟩ := dg_e hB
  refine rg_gz rfl rfl rfl (of_decide_eq_true c1) ?_
  refine rg_ic (v := (1 : Int32)) rfl (by decide) ?_
  refine rg_p rfl rfl ?_
  show rg 72 7 _ _ _ _
  obtain ⟨h2, e3, hB⟩ := dl_e hB
  refine rg_pi rfl rfl rfl (of_decide_eq_true c1) e3 ?_
  refine rg_p rfl rfl ?_
  obtain ⟨c4, hB⟩ := dg_e hB
  refine rg_gz rfl rfl rfl (of_decide_eq_true c4) ?_
  refine rg_bi (v := (10 : Int32)) rfl (by decide) ?_
  refine rg_rm rfl (by decide) ?_
  rcases db_e hB with ⟨q5, hB⟩ | ⟨q5, hB⟩
  · refine rg_bt (t := 39) (pc' := 20) rfl rfl q5 ?_
    exact sB_72_39 f  _ _ _ h2 _ hB
  · refine rg_bf (t := 39) (pc' := 20) rfl rfl q5 ?_
    refine rg_p rfl rfl ?_
    refine rg_gz rfl rfl rfl (of_decide_eq_true c4) ?_
    refine rg_bi (v := (6 : Int32)) rfl (by decide) ?_
    rcases db_e hB with ⟨q6, hB⟩ | ⟨q6, hB⟩
    · refine rg_bt (t := 39) (pc' := 29) rfl rfl q6 ?_
      exact sB_72_39 f  _ _ _ h2 _ hB
    · refine rg_bf (t := 39) (pc' := 29) rfl rfl q6 ?_
      refine rg_p rfl rfl ?_
      refine rg_p rfl rfl ?_
      refine rg_gz rfl rfl rfl (of_decide_eq_true c4) ?_
      refine rg_ic (v := (1 : Int32)) rfl (by decide) ?_
      refine rg_p rfl rfl ?_
      show rg 72 36 _ _ _ _
      obtain ⟨h7, e8, hB⟩ := dl_e hB
      refine rg_pi rfl rfl rfl (of_decide_eq_true c4) e8 ?_
      exact sB_72_39 f  _ _ _ h7 _ hB
-- 57: RouteHouse.pass(I)I
def B_57_29 (f : Nat) : Nat → Nat → Int32 → Int32 → hp_T → Option ev_O
  | 0, _, _, _, _ => none
  | g + 1, l0, l1, l2, h => (db (ev_c .ge l2 l1) (dg (decide (hp_k h l0 = some (7, 0))) (dp (hp_p h l0 5) fun r3 => (dg (decide (hp_k h r3 = some (1, 0))) (some (.inl (some (.int (hp_z h r3 6))), h))))) (dg (decide (hp_k h l0 = some (7, 0))) (dv (F_72 f l0 h) fun h7 => ((B_57_29 f g) l0 l1 (l2 + (1 : Int32)) h7))))
theorem sB_57_29 (f : Nat) : ∀ (g : Nat) (l0 : Nat) (l1 : Int32) (l2 : Int32) (h : hp_T) (o : ev_O), B_57_29 f g l0 l1 l2 h = some o → rg 57 29 [.ref l0, .int l1, .int l2] [] h o := by
  intro g
  induction g with
  | zero =>
    intro l0 l1 l2  h o hB
    rw [B_57_29] at hB
    cases hB
  | succ g ih =>
    intro l0 l1 l2  h o hB
    rw [B_57_29] at hB
    refine rg_p rfl rfl ?_
    refine rg_p rfl rfl ?_
    rcases db_e hB with ⟨q1, hB⟩ | ⟨q1, hB⟩
    · refine rg_bt (t := 44) (pc' := 34) rfl rfl q1 ?_
      refine rg_p rfl rfl ?_
      obtain ⟨c2, hB⟩ := dg_e hB
      obtain ⟨r3, p4, hB⟩ := dp_e hB
      refine rg_gp rfl rfl rfl (of_decide_eq_true c2) p4 ?_
      obtain ⟨c5, hB⟩ := dg_e hB
      refine rg_gz rfl rfl rfl (of_decide_eq_true c5) ?_
      cases hB
      exact rg_ri rfl rfl rfl
    · refine rg_bf (t := 44) (pc' := 34) rfl rfl q1 ?_
      refine rg_p rfl rfl ?_
      obtain ⟨c6, hB⟩ := dg_e hB
      rcases dv_e hB with ⟨h7, z8, hB⟩ | ⟨q9, h7, z8, hB⟩
      · refine rg_call (rg_v9 (n := 0) (b := l0) (as := [.ref l0]) (ar := []) rfl rfl rfl (Nat.le_of_ble_eq_true rfl) rfl rfl (Nat.le_of_ble_eq_true rfl) (of_decide_eq_true c6)) (sF_72 z8) ?_
        refine rg_p (L' := [.ref l0, .int l1, .int (l2 + (1 : Int32))]) rfl rfl ?_
        refine rg_p (pc' := 29) rfl rfl ?_
        exact ih _ _ _ h7 _ hB
      · subst hB
        exact rg_callX (rg_v9 (n := 0) (b := l0) (as := [.ref l0]) (ar := []) rfl rfl rfl (Nat.le_of_ble_eq_true rfl) rfl rfl (Nat.le_of_ble_eq_true rfl) (of_decide_eq_true c6)) (sF_72 z8)
def B_57_10 (f : Nat) (h : hp_T) : Option ev_O := (some (.inr 1, hp_thr h))
theorem sB_57_10 (f : Nat) (w0 : Value) (w1 : Value) (w2 : Value) (h : hp_T) (o : ev_O) (hB : B_57_10 f  h = some o) : rg 57 10 [w0, w1, w2] [] h o := by
  unfold B_57_10 at hB
  cases hB
  exact rg_th rfl rfl (Nat.le_of_ble_eq_true rfl)
def F_57 (f : Nat) (a0 : Nat) (a1 : Int32) (h : hp_T) : Option ev_O := (db (ev_c .lt a1 0) (B_57_10 f   h) (db (ev_c .le a1 (100 : Int32)) (dg (decide (hp_k h a0 = some (7, 0))) (dp (hp_p h a0 5) fun r4 => (dg (decide (hp_k h r4 = some (1, 0))) (dv (F_3 f r4 h) fun h7 => (B_57_29 f  f a0 a1 (0 : Int32) h7))))) (B_57_10 f   h)))
theorem sF_57 {f : Nat} {a0 : Nat} {a1 : Int32} {h : hp_T} {o : ev_O} (hB : F_57 f a0 a1 h = some o) : rm 57 [.ref a0, .int a1] h o := by
  unfold F_57 at hB
  refine rm_in (L := [.ref a0, .int a1, .null]) (Nat.le_of_ble_eq_true rfl) rfl ?_
  refine rg_p rfl rfl ?_
  rcases db_e hB with ⟨q1, hB⟩ | ⟨q1, hB⟩
  · refine rg_bt (t := 10) (pc' := 4) rfl rfl q1 ?_
    exact sB_57_10 f  _ _ _ h _ hB
  · refine rg_bf (t := 10) (pc' := 4) rfl rfl q1 ?_
    refine rg_p rfl rfl ?_
    refine rg_bi (v := (100 : Int32)) rfl (by decide) ?_
    rcases db_e hB with ⟨q2, hB⟩ | ⟨q2, hB⟩
    · refine rg_bt (t := 20) (pc' := 10) rfl rfl q2 ?_
      refine rg_p rfl rfl ?_
      obtain ⟨c3, hB⟩ := dg_e hB
      obtain ⟨r4, p5, hB⟩ := dp_e hB
      refine rg_gp rfl rfl rfl (of_decide_eq_true c3) p5 ?_
      obtain ⟨c6, hB⟩ := dg_e hB
      rcases dv_e hB with ⟨h7, z8, hB⟩ | ⟨q9, h7, z8, hB⟩
      · refine rg_call (rg_v9 (n := 0) (b := r4) (as := [.ref r4]) (ar := []) rfl rfl rfl (Nat.le_of_ble_eq_true rfl) rfl rfl (Nat.le_of_ble_eq_true rfl) (of_decide_eq_true c6)) (sF_3 z8) ?_
        refine rg_ic (v := (0 : Int32)) rfl (by decide) ?_
        refine rg_p (L' := [.ref a0, .int a1, .int (0 : Int32)]) rfl rfl ?_
        exact sB_57_29 f  f _ _ _ h7 _ hB
      · subst hB
        exact rg_callX (rg_v9 (n := 0) (b := r4) (as := [.ref r4]) (ar := []) rfl rfl rfl (Nat.le_of_ble_eq_true rfl) rfl rfl (Nat.le_of_ble_eq_true rfl) (of_decide_eq_true c6)) (sF_3 z8)
    · refine rg_bf (t := 20) (pc' := 10) rfl rfl q2 ?_
      exact sB_57_10 f  _ _ _ h _ hB
-- 58: RouteHouse.sent(II)I
def F_58 (f : Nat) (a0 : Nat) (a1 : Int32) (a2 : Int32) (h : hp_T) : Option ev_O := (dg (decide (hp_k h a0 = some (7, 0))) (dv (F_63 f a0 a1 h) fun h2 => (db (decide ((a2).toInt < 0 ∨ 2 < (a2).toInt)) (some (.inr 1, hp_thr h2)) (db (decide (a2 = (0 : Int32))) (dg (decide (hp_k h2 a0 = some (7, 0))) (dp (hp_p h2 a0 5) fun r9 => (dg (decide (hp_k h2 r9 = some (1, 0))) (dp (hp_p h2 r9 2) fun r12 => (dg (aib 64 h2 r12 a1) (some (.inl (some (.int (hp_z h2 r12 (Int32.toNatClampNeg a1)))), h2))))))) (db (decide (a2 = (1 : Int32))) (dg (decide (hp_k h2 a0 = some (7, 0))) (dp (hp_p h2 a0 5) fun r17 => (dg (decide (hp_k h2 r17 = some (1, 0))) (dp (hp_p h2 r17 3) fun r20 => (dg (aib 64 h2 r20 a1) (some (.inl (some (.int (hp_z h2 r20 (Int32.toNatClampNeg a1)))), h2))))))) (db (decide (a2 = (2 : Int32))) (dg (decide (hp_k h2 a0 = some (7, 0))) (dp (hp_p h2 a0 5) fun r25 => (dg (decide (hp_k h2 r25 = some (1, 0))) (dp (hp_p h2 r25 4) fun r28 => (dg (aib 64 h2 r28 a1) (some (.inl (some (.int (hp_z h2 r28 (Int32.toNatClampNeg a1)))), h2))))))) none))))))
theorem sF_58 {f : Nat} {a0 : Nat} {a1 : Int32} {a2 : Int32} {h : hp_T} {o : ev_O} (hB : F_58 f a0 a1 a2 h = some o) : rm 58 [.ref a0, .int a1, .int a2] h o := by
  unfold F_58 at hB
  refine rm_in (L := [.ref a0, .int a1, .int a2]) (Nat.le_of_ble_eq_true rfl) rfl ?_
  refine rg_p rfl rfl ?_
  refine rg_p rfl rfl ?_
  obtain ⟨c1, hB⟩ := dg_e hB
  rcases dv_e hB with ⟨h2, z3, hB⟩ | ⟨q4, h2, z3, hB⟩
  · refine rg_call (rg_v9 (n := 1) (b := a0) (as := [.ref a0, .int a1]) (ar := []) rfl rfl rfl (Nat.le_of_ble_eq_true rfl) rfl rfl (Nat.le_of_ble_eq_true rfl) (of_decide_eq_true c1)) (sF_63 z3) ?_
    refine rg_p rfl rfl ?_
    rcases db_e hB with ⟨q6, hB⟩ | ⟨q6, hB⟩
    · refine rg_p (pc' := 62) rfl (by simp only [ev_p]; rw [if_pos (of_decide_eq_true q6)]; rfl) ?_
      cases hB
      exact rg_th rfl rfl (Nat.le_of_ble_eq_true rfl)
    · skip
      rcases db_e hB with ⟨q7, hB⟩ | ⟨q7, hB⟩
      · refine rg_p (pc' := 32) rfl (by rw [of_decide_eq_true q7]; rfl) ?_
        refine rg_p rfl rfl ?_
        obtain ⟨c8, hB⟩ := dg_e hB
        obtain ⟨r9, p10, hB⟩ := dp_e hB
        refine rg_gp rfl rfl rfl (of_decide_eq_true c8) p10 ?_
        obtain ⟨c11, hB⟩ := dg_e hB
        obtain ⟨r12, p13, hB⟩ := dp_e hB
        refine rg_gp rfl rfl rfl (of_decide_eq_true c11) p13 ?_
        refine rg_p rfl rfl ?_
        obtain ⟨c14, hB⟩ := dg_e hB
        refine rg_ia rfl (ai_of c14) ?_
        show rg 58 41 _ _ _ _
        cases hB
        exact rg_ri rfl rfl rfl
      · skip
        rcases db_e hB with ⟨q15, hB⟩ | ⟨q15, hB⟩
        · refine rg_p (pc' := 42) rfl (by rw [of_decide_eq_true q15]; rfl) ?_
          refine rg_p rfl rfl ?_
          obtain ⟨c16, hB⟩ := dg_e hB
          obtain ⟨r17, p18, hB⟩ := dp_e hB
          refine rg_gp rfl rfl rfl (of_decide_eq_true c16) p18 ?_
          obtain ⟨c19, hB⟩ := dg_e hB
          obtain ⟨r20, p21, hB⟩ := dp_e hB
          refine rg_gp rfl rfl rfl (of_decide_eq_true c19) p21 ?_
          refine rg_p rfl rfl ?_
          obtain ⟨c22, hB⟩ := dg_e hB
          refine rg_ia rfl (ai_of c22) ?_
          show rg 58 51 _ _ _ _
          cases hB
          exact rg_ri rfl rfl rfl
        · skip
          rcases db_e hB with ⟨q23, hB⟩ | ⟨q23, hB⟩
          · refine rg_p (pc' := 52) rfl (by rw [of_decide_eq_true q23]; rfl) ?_
            refine rg_p rfl rfl ?_
            obtain ⟨c24, hB⟩ := dg_e hB
            obtain ⟨r25, p26, hB⟩ := dp_e hB
            refine rg_gp rfl rfl rfl (of_decide_eq_true c24) p26 ?_
            obtain ⟨c27, hB⟩ := dg_e hB
            obtain ⟨r28, p29, hB⟩ := dp_e hB
            refine rg_gp rfl rfl rfl (of_decide_eq_true c27) p29 ?_
            refine rg_p rfl rfl ?_
            obtain ⟨c30, hB⟩ := dg_e hB
            refine rg_ia rfl (ai_of c30) ?_
            show rg 58 61 _ _ _ _
            cases hB
            exact rg_ri rfl rfl rfl
          · skip
            cases hB
  · subst hB
    exact rg_callX (rg_v9 (n := 1) (b := a0) (as := [.ref a0, .int a1]) (ar := []) rfl rfl rfl (Nat.le_of_ble_eq_true rfl) rfl rfl (Nat.le_of_ble_eq_true rfl) (of_decide_eq_true c1)) (sF_63 z3)
-- 59: RouteHouse.out(II)I
def B_59_22 (f : Nat) (h : hp_T) : Option ev_O := (some (.inr 0, hp_thr h))
theorem sB_59_22 (f : Nat) (w0 : Value) (w1 : Value) (w2 : Value) (h : hp_T) (o : ev_O) (hB : B_59_22 f  h = some o) : rg 59 22 [w0, w1, w2] [] h o := by
  unfold B_59_22 at hB
  cases hB
  exact rg_th rfl rfl (Nat.le_of_ble_eq_true rfl)
def F_59 (f : Nat) (a0 : Nat) (a1 : Int32) (a2 : Int32) (h : hp_T) : Option ev_O := (dg (decide (hp_k h a0 = some (7, 0))) (dv (F_63 f a0 a1 h) fun h2 => (db (ev_c .lt a2 0) (B_59_22 f   h2) (dg (decide (hp_k h2 a0 = some (7, 0))) (dp (hp_p h2 a0 5) fun r7 => (dg (decide (hp_k h2 r7 = some (1, 0))) (dp (hp_p h2 r7 2) fun r10 => (dg (aib 64 h2 r10 a1) (db (ev_c .lt a2 (hp_z h2 r10 (Int32.toNatClampNeg a1))) (dp (hp_p h2 r7 0) fun r14 => (dp (hp_p h2 r7 1) fun r16 => (dg (aib 64 h2 r16 a1) (dg (aib 65 h2 r14 ((hp_z h2 r16 (Int32.toNatClampNeg a1)) + a2)) (some (.inl (some (.int ((hp_z h2 r14 (Int32.toNatClampNeg ((hp_z h2 r16 (Int32.toNatClampNeg a1)) + a2))) &&& (255 : Int32)))), h2)))))) (B_59_22 f   h2))))))))))
theorem sF_59 {f : Nat} {a0 : Nat} {a1 : Int32} {a2 : Int32} {h : hp_T} {o : ev_O} (hB : F_59 f a0 a1 a2 h = some o) : rm 59 [.ref a0, .int a1, .int a2] h o := by
  unfold F_59 at hB
  refine rm_in (L := [.ref a0, .int a1, .int a2]) (Nat.le_of_ble_eq_true rfl) rfl ?_
  refine rg_p rfl rfl ?_
  refine rg_p rfl rfl ?_
  obtain ⟨c1, hB⟩ := dg_e hB
  rcases dv_e hB with ⟨h2, z3, hB⟩ | ⟨q4, h2, z3, hB⟩
  · refine rg_call (rg_v9 (n := 1) (b := a0) (as := [.ref a0, .int a1]) (ar := []) rfl rfl rfl (Nat.le_of_ble_eq_true rfl) rfl rfl (Nat.le_of_ble_eq_true rfl) (of_decide_eq_true c1)) (sF_63 z3) ?_
    refine rg_p rfl rfl ?_
    rcases db_e hB with ⟨q5, hB⟩ | ⟨q5, hB⟩
    · refine rg_bt (t := 22) (pc' := 9) rfl rfl q5 ?_
      exact sB_59_22 f  _ _ _ h2 _ hB
    · refine rg_bf (t := 22) (pc' := 9) rfl rfl q5 ?_
      refine rg_p rfl rfl ?_
      refine rg_p rfl rfl ?_
      obtain ⟨c6, hB⟩ := dg_e hB
      obtain ⟨r7, p8, hB⟩ := dp_e hB
      refine rg_gp rfl rfl rfl (of_decide_eq_true c6) p8 ?_
      obtain ⟨c9, hB⟩ := dg_e hB
      obtain ⟨r10, p11, hB⟩ := dp_e hB
      refine rg_gp rfl rfl rfl (of_decide_eq_true c9) p11 ?_
      refine rg_p rfl rfl ?_
      show rg 59 18 _ _ _ _
      obtain ⟨c12, hB⟩ := dg_e hB
      refine rg_ia rfl (ai_of c12) ?_
      rcases db_e hB with ⟨q13, hB⟩ | ⟨q13, hB⟩
      · refine rg_bt (t := 32) (pc' := 22) rfl rfl q13 ?_
        refine rg_p rfl rfl ?_
        refine rg_gp rfl rfl rfl (of_decide_eq_true c6) p8 ?_
        obtain ⟨r14, p15, hB⟩ := dp_e hB
        refine rg_gp rfl rfl rfl (of_decide_eq_true c9) p15 ?_
        refine rg_p rfl rfl ?_
        refine rg_gp rfl rfl rfl (of_decide_eq_true c6) p8 ?_
        show rg 59 43 _ _ _ _
        obtain ⟨r16, p17, hB⟩ := dp_e hB
        refine rg_gp rfl rfl rfl (of_decide_eq_true c9) p17 ?_
        refine rg_p rfl rfl ?_
        obtain ⟨c18, hB⟩ := dg_e hB
        refine rg_ia rfl (ai_of c18) ?_
        refine rg_p rfl rfl ?_
        refine rg_p rfl rfl ?_
        obtain ⟨c19, hB⟩ := dg_e hB
        refine rg_ba (t := 65) (by decide) rfl (ai_of c19) ?_
        show rg 59 51 _ _ _ _
        refine rg_si (v := (255 : Int32)) rfl (by decide) ?_
        refine rg_p rfl rfl ?_
        cases hB
        exact rg_ri rfl rfl rfl
      · refine rg_bf (t := 32) (pc' := 22) rfl rfl q13 ?_
        exact sB_59_22 f  _ _ _ h2 _ hB
  · subst hB
    exact rg_callX (rg_v9 (n := 1) (b := a0) (as := [.ref a0, .int a1]) (ar := []) rfl rfl rfl (Nat.le_of_ble_eq_true rfl) rfl rfl (Nat.le_of_ble_eq_true rfl) (of_decide_eq_true c1)) (sF_63 z3)
-- 60: RouteHouse.data(I)I
def B_60_32 (f : Nat) (s0 : Int32) (h : hp_T) : Option ev_O := (some (.inl (some (.int s0)), h))
theorem sB_60_32 (f : Nat) (s0 : Int32) (w0 : Value) (w1 : Value) (h : hp_T) (o : ev_O) (hB : B_60_32 f s0 h = some o) : rg 60 32 [w0, w1] [.int s0] h o := by
  unfold B_60_32 at hB
  cases hB
  exact rg_ri rfl rfl rfl
def B_60_15 (f : Nat) (h : hp_T) : Option ev_O := (B_60_32 f  (-1 : Int32) h)
theorem sB_60_15 (f : Nat) (w0 : Value) (w1 : Value) (h : hp_T) (o : ev_O) (hB : B_60_15 f  h = some o) : rg 60 15 [w0, w1] [] h o := by
  unfold B_60_15 at hB
  refine rg_ic (v := (-1 : Int32)) rfl (by decide) ?_
  refine rg_p (pc' := 32) rfl rfl ?_
  exact sB_60_32 f  _ _ _ h _ hB
def F_60 (f : Nat) (a0 : Nat) (a1 : Int32) (h : hp_T) : Option ev_O := (db (ev_c .lt a1 0) (B_60_15 f   h) (dg (decide (hp_k h a0 = some (7, 0))) (dp (hp_p h a0 7) fun r3 => (dg (decide (hp_k h r3 = some (0, 0))) (db (ev_c .lt a1 (hp_z h r3 4)) (dp (hp_p h r3 0) fun r7 => (dg (aib 65 h r7 a1) (B_60_32 f  ((hp_z h r7 (Int32.toNatClampNeg a1)) &&& (255 : Int32)) h))) (B_60_15 f   h))))))
theorem sF_60 {f : Nat} {a0 : Nat} {a1 : Int32} {h : hp_T} {o : ev_O} (hB : F_60 f a0 a1 h = some o) : rm 60 [.ref a0, .int a1] h o := by
  unfold F_60 at hB
  refine rm_in (L := [.ref a0, .int a1]) (Nat.le_of_ble_eq_true rfl) rfl ?_
  refine rg_p rfl rfl ?_
  rcases db_e hB with ⟨q1, hB⟩ | ⟨q1, hB⟩
  · refine rg_bt (t := 15) (pc' := 4) rfl rfl q1 ?_
    exact sB_60_15 f  _ _ h _ hB
  · refine rg_bf (t := 15) (pc' := 4) rfl rfl q1 ?_
    refine rg_p rfl rfl ?_
    refine rg_p rfl rfl ?_
    obtain ⟨c2, hB⟩ := dg_e hB
    obtain ⟨r3, p4, hB⟩ := dp_e hB
    refine rg_gp rfl rfl rfl (of_decide_eq_true c2) p4 ?_
    obtain ⟨c5, hB⟩ := dg_e hB
    refine rg_gz rfl rfl rfl (of_decide_eq_true c5) ?_
    rcases db_e hB with ⟨q6, hB⟩ | ⟨q6, hB⟩
    · refine rg_bt (t := 19) (pc' := 15) rfl rfl q6 ?_
      refine rg_p rfl rfl ?_
      refine rg_gp rfl rfl rfl (of_decide_eq_true c2) p4 ?_
      obtain ⟨r7, p8, hB⟩ := dp_e hB
      refine rg_gp rfl rfl rfl (of_decide_eq_true c5) p8 ?_
      refine rg_p rfl rfl ?_
      obtain ⟨c9, hB⟩ := dg_e hB
      refine rg_ba (t := 65) (by decide) rfl (ai_of c9) ?_
      show rg 60 28 _ _ _ _
      refine rg_si (v := (255 : Int32)) rfl (by decide) ?_
      refine rg_p rfl rfl ?_
      exact sB_60_32 f  _ _ _ h _ hB
    · refine rg_bf (t := 19) (pc' := 15) rfl rfl q6 ?_
      exact sB_60_15 f  _ _ h _ hB
-- 61: RouteHouse.about(I)I
def F_61 (f : Nat) (a0 : Nat) (a1 : Int32) (h : hp_T) : Option ev_O := (db (decide ((a1).toInt < 0 ∨ 10 < (a1).toInt)) (some (.inr 1, hp_thr h)) (db (decide (a1 = (0 : Int32))) (dg (decide (hp_k h a0 = some (7, 0))) (dp (hp_p h a0 1) fun r5 => (dg (decide (hp_k h r5 = some (4, 0))) (some (.inl (some (.int (hp_z h r5 4))), h))))) (db (decide (a1 = (1 : Int32))) (dg (decide (hp_k h a0 = some (7, 0))) (dp (hp_p h a0 5) fun r10 => (dg (decide (hp_k h r10 = some (1, 0))) (some (.inl (some (.int (hp_z h r10 6))), h))))) (db (decide (a1 = (2 : Int32))) (dg (decide (hp_k h a0 = some (7, 0))) (dp (hp_p h a0 6) fun r15 => (dg (decide (hp_k h r15 = some (6, 0))) (some (.inl (some (.int (hp_z h r15 1))), h))))) (db (decide (a1 = (3 : Int32))) (dg (decide (hp_k h a0 = some (7, 0))) (some (.inl (some (.int (hp_z h a0 8))), h))) (db (decide (a1 = (4 : Int32))) (dg (decide (hp_k h a0 = some (7, 0))) (some (.inl (some (.int (hp_z h a0 9))), h))) (db (decide (a1 = (5 : Int32))) (dg (decide (hp_k h a0 = some (7, 0))) (some (.inl (some (.int (hp_z h a0 10))), h))) (db (decide (a1 = (6 : Int32))) (dg (decide (hp_k h a0 = some (7, 0))) (dp (hp_p h a0 7) fun r26 => (dg (decide (hp_k h r26 = some (0, 0))) (some (.inl (some (.int (hp_z h r26 1))), h))))) (db (decide (a1 = (7 : Int32))) (dg (decide (hp_k h a0 = some (7, 0))) (dp (hp_p h a0 7) fun r31 => (dg (decide (hp_k h r31 = some (0, 0))) (some (.inl (some (.int (hp_z h r31 2))), h))))) (db (decide (a1 = (8 : Int32))) (dg (decide (hp_k h a0 = some (7, 0))) (dp (hp_p h a0 7) fun r36 => (dg (decide (hp_k h r36 = some (0, 0))) (some (.inl (some (.int (hp_z h r36 3))), h))))) (db (decide (a1 = (9 : Int32))) (dg (decide (hp_k h a0 = some (7, 0))) (dp (hp_p h a0 7) fun r41 => (dg (decide (hp_k h r41 = some (0, 0))) (some (.inl (some (.int (hp_z h r41 4))), h))))) (db (decide (a1 = (10 : Int32))) (dg (decide (hp_k h a0 = some (7, 0))) (dp (hp_p h a0 2) fun r46 => (dg (decide (hp_k h r46 = some (2, 0))) (some (.inl (some (.int (hp_z h r46 1))), h))))) none))))))))))))
theorem sF_61 {f : Nat} {a0 : Nat} {a1 : Int32} {h : hp_T} {o : ev_O} (hB : F_61 f a0 a1 h = some o) : rm 61 [.ref a0, .int a1] h o := by
  unfold F_61 at hB
  refine rm_in (L := [.ref a0, .int a1]) (Nat.le_of_ble_eq_true rfl) rfl ?_
  refine rg_p rfl rfl ?_
  rcases db_e hB with ⟨q2, hB⟩ | ⟨q2, hB⟩
  · refine rg_p (pc' := 139) rfl (by simp only [ev_p]; rw [if_pos (of_decide_eq_true q2)]; rfl) ?_
    cases hB
    exact rg_th rfl rfl (Nat.le_of_ble_eq_true rfl)
  · skip
    rcases db_e hB with ⟨q3, hB⟩ | ⟨q3, hB⟩
    · refine rg_p (pc' := 60) rfl (by rw [of_decide_eq_true q3]; rfl) ?_
      refine rg_p rfl rfl ?_
      obtain ⟨c4, hB⟩ := dg_e hB
      obtain ⟨r5, p6, hB⟩ := dp_e hB
      refine rg_gp rfl rfl rfl (of_decide_eq_true c4) p6 ?_
      obtain ⟨c7, hB⟩ := dg_e hB
      refine rg_gz rfl rfl rfl (of_decide_eq_true c7) ?_
      cases hB
      exact rg_ri rfl rfl rfl
    · skip
      rcases db_e hB with ⟨q8, hB⟩ | ⟨q8, hB⟩
      · refine rg_p (pc' := 68) rfl (by rw [of_decide_eq_true q8]; rfl) ?_
        refine rg_p rfl rfl ?_
        obtain ⟨c9, hB⟩ := dg_e hB
        obtain ⟨r10, p11, hB⟩ := dp_e hB
        refine rg_gp rfl rfl rfl (of_decide_eq_true c9) p11 ?_
        obtain ⟨c12, hB⟩ := dg_e hB
        refine rg_gz rfl rfl rfl (of_decide_eq_true c12) ?_
        cases hB
        exact rg_ri rfl rfl rfl
      · skip
        rcases db_e hB with ⟨q13, hB⟩ | ⟨q13, hB⟩
        · refine rg_p (pc' := 76) rfl (by rw [of_decide_eq_true q13]; rfl) ?_
          refine rg_p rfl rfl ?_
          obtain ⟨c14, hB⟩ := dg_e hB
          obtain ⟨r15, p16, hB⟩ := dp_e hB
          refine rg_gp rfl rfl rfl (of_decide_eq_true c14) p16 ?_
          obtain ⟨c17, hB⟩ := dg_e hB
          refine rg_gz rfl rfl rfl (of_decide_eq_true c17) ?_
          cases hB
          exact rg_ri rfl rfl rfl
        · skip
          rcases db_e hB with ⟨q18, hB⟩ | ⟨q18, hB⟩
          · refine rg_p (pc' := 84) rfl (by rw [of_decide_eq_true q18]; rfl) ?_
            refine rg_p rfl rfl ?_
            obtain ⟨c19, hB⟩ := dg_e hB
            refine rg_gz rfl rfl rfl (of_decide_eq_true c19) ?_
            cases hB
            exact rg_ri rfl rfl rfl
          · skip
            rcases db_e hB with ⟨q20, hB⟩ | ⟨q20, hB⟩
            · refine rg_p (pc' := 89) rfl (by rw [of_decide_eq_true q20]; rfl) ?_
              refine rg_p rfl rfl ?_
              obtain ⟨c21, hB⟩ := dg_e hB
              refine rg_gz rfl rfl rfl (of_decide_eq_true c21) ?_
              cases hB
              exact rg_ri rfl rfl rfl
            · skip
              rcases db_e hB with ⟨q22, hB⟩ | ⟨q22, hB⟩
              · refine rg_p (pc' := 94) rfl (by rw [of_decide_eq_true q22]; rfl) ?_
                refine rg_p rfl rfl ?_
                obtain ⟨c23, hB⟩ := dg_e hB
                refine rg_gz rfl rfl rfl (of_decide_eq_true c23) ?_
                cases hB
                exact rg_ri rfl rfl rfl
              · skip
                rcases db_e hB with ⟨q24, hB⟩ | ⟨q24, hB⟩
                · refine rg_p (pc' := 99) rfl (by rw [of_decide_eq_true q24]; rfl) ?_
                  refine rg_p rfl rfl ?_
                  obtain ⟨c25, hB⟩ := dg_e hB
                  obtain ⟨r26, p27, hB⟩ := dp_e hB
                  refine rg_gp rfl rfl rfl (of_decide_eq_true c25) p27 ?_
                  obtain ⟨c28, hB⟩ := dg_e hB
                  refine rg_gz rfl rfl rfl (of_decide_eq_true c28) ?_
                  cases hB
                  exact rg_ri rfl rfl rfl
                · skip
                  rcases db_e hB with ⟨q29, hB⟩ | ⟨q29, hB⟩
                  · refine rg_p (pc' := 107) rfl (by rw [of_decide_eq_true q29]; rfl) ?_
                    refine rg_p rfl rfl ?_
                    obtain ⟨c30, hB⟩ := dg_e hB
                    obtain ⟨r31, p32, hB⟩ := dp_e hB
                    refine rg_gp rfl rfl rfl (of_decide_eq_true c30) p32 ?_
                    obtain ⟨c33, hB⟩ := dg_e hB
                    refine rg_gz rfl rfl rfl (of_decide_eq_true c33) ?_
                    cases hB
                    exact rg_ri rfl rfl rfl
                  · skip
                    rcases db_e hB with ⟨q34, hB⟩ | ⟨q34, hB⟩
                    · refine rg_p (pc' := 115) rfl (by rw [of_decide_eq_true q34]; rfl) ?_
                      refine rg_p rfl rfl ?_
                      obtain ⟨c35, hB⟩ := dg_e hB
                      obtain ⟨r36, p37, hB⟩ := dp_e hB
                      refine rg_gp rfl rfl rfl (of_decide_eq_true c35) p37 ?_
                      obtain ⟨c38, hB⟩ := dg_e hB
                      refine rg_gz rfl rfl rfl (of_decide_eq_true c38) ?_
                      cases hB
                      exact rg_ri rfl rfl rfl
                    · skip
                      rcases db_e hB with ⟨q39, hB⟩ | ⟨q39, hB⟩
                      · refine rg_p (pc' := 123) rfl (by rw [of_decide_eq_true q39]; rfl) ?_
                        refine rg_p rfl rfl ?_
                        obtain ⟨c40, hB⟩ := dg_e hB
                        obtain ⟨r41, p42, hB⟩ := dp_e hB
                        refine rg_gp rfl rfl rfl (of_decide_eq_true c40) p42 ?_
                        obtain ⟨c43, hB⟩ := dg_e hB
                        refine rg_gz rfl rfl rfl (of_decide_eq_true c43) ?_
                        cases hB
                        exact rg_ri rfl rfl rfl
                      · skip
                        rcases db_e hB with ⟨q44, hB⟩ | ⟨q44, hB⟩
                        · refine rg_p (pc' := 131) rfl (by rw [of_decide_eq_true q44]; rfl) ?_
                          refine rg_p rfl rfl ?_
                          obtain ⟨c45, hB⟩ := dg_e hB
                          obtain ⟨r46, p47, hB⟩ := dp_e hB
                          refine rg_gp rfl rfl rfl (of_decide_eq_true c45) p47 ?_
                          obtain ⟨c48, hB⟩ := dg_e hB
                          refine rg_gz rfl rfl rfl (of_decide_eq_true c48) ?_
                          cases hB
                          exact rg_ri rfl rfl rfl
                        · skip
                          cases hB
