-- 99: RouteHouseModel.answer(I)V
def B_99_124 (f : Nat) : Nat → Nat → Int32 → Int32 → hp_T → Option ev_O
  | 0, _, _, _, _ => none
  | g + 1, l0, l1, l4, h => (dg (decide (hp_k h l0 = some (8, 0))) (db (ev_c .ge l4 (hp_z h l0 12)) (dv (F_95 f l0 l1 (0 : Int32) h) fun h3 => (some (.inl none, h3))) (dp (hp_p h l0 10) fun r6 => (dp (hp_p h l0 11) fun r8 => (dg (aib 64 h r8 l4) (dg (aib 64 h r6 l4) (dl (wz h r6 (Int32.toNatClampNeg l4) (hp_z h r8 (Int32.toNatClampNeg l4))) fun h12 => ((B_99_124 f g) l0 l1 (l4 + (1 : Int32)) h12))))))))
set_option maxRecDepth 20000 in
theorem sB_99_124 (f : Nat) : ∀ (g : Nat) (l0 : Nat) (l1 : Int32) (l4 : Int32) (w2 : Value) (w3 : Value) (h : hp_T) (o : ev_O), B_99_124 f g l0 l1 l4 h = some o → rg 99 124 [.ref l0, .int l1, w2, w3, .int l4] [] h o := by
  intro g
  induction g with
  | zero =>
    intro l0 l1 l4 w2 w3 h o hB
    rw [B_99_124] at hB
    cases hB
  | succ g ih =>
    intro l0 l1 l4 w2 w3 h o hB
    rw [B_99_124] at hB
    refine rg_p rfl rfl ?_
    refine rg_p rfl rfl ?_
    obtain ⟨c1, hB⟩ := dg_e hB
    refine rg_gz rfl rfl rfl (of_decide_eq_true c1) ?_
    rcases db_e hB with ⟨q2, hB⟩ | ⟨q2, hB⟩
    · refine rg_bt (t := 153) (pc' := 133) rfl rfl q2 ?_
      refine rg_p rfl rfl ?_
      refine rg_p rfl rfl ?_
      refine rg_ic (v := (0 : Int32)) rfl (by decide) ?_
      rcases dv_e hB with ⟨h3, z4, hB⟩ | ⟨q5, h3, z4, hB⟩
      · refine rg_call (rg_v9 (n := 2) (b := l0) (as := [.ref l0, .int l1, .int (0 : Int32)]) (ar := []) rfl rfl rfl (Nat.le_of_ble_eq_true rfl) rfl rfl (Nat.le_of_ble_eq_true rfl) (of_decide_eq_true c1)) (sF_95 z4) ?_
        cases hB
        exact rg_rv rfl rfl
      · subst hB
        exact rg_callX (rg_v9 (n := 2) (b := l0) (as := [.ref l0, .int l1, .int (0 : Int32)]) (ar := []) rfl rfl rfl (Nat.le_of_ble_eq_true rfl) rfl rfl (Nat.le_of_ble_eq_true rfl) (of_decide_eq_true c1)) (sF_95 z4)
    · refine rg_bf (t := 153) (pc' := 133) rfl rfl q2 ?_
      refine rg_p rfl rfl ?_
      obtain ⟨r6, p7, hB⟩ := dp_e hB
      refine rg_gp rfl rfl rfl (of_decide_eq_true c1) p7 ?_
      refine rg_p rfl rfl ?_
      refine rg_p rfl rfl ?_
      obtain ⟨r8, p9, hB⟩ := dp_e hB
      refine rg_gp rfl rfl rfl (of_decide_eq_true c1) p9 ?_
      show rg 99 143 _ _ _ _
      refine rg_p rfl rfl ?_
      obtain ⟨c10, hB⟩ := dg_e hB
      refine rg_ia rfl (ai_of c10) ?_
      obtain ⟨c11, hB⟩ := dg_e hB
      obtain ⟨h12, e13, hB⟩ := dl_e hB
      refine rg_is rfl (ai_of c11) e13 ?_
      refine rg_p (L' := [.ref l0, .int l1, w2, w3, .int (l4 + (1 : Int32))]) rfl rfl ?_
      refine rg_p (pc' := 124) rfl rfl ?_
      exact ih _ _ _ _ _ h12 _ hB
def B_99_54 (f : Nat) : Nat → Nat → Int32 → Int32 → Int32 → Int32 → hp_T → Option ev_O
  | 0, _, _, _, _, _, _ => none
  | g + 1, l0, l1, l2, l3, l4, h => (db (ev_c .ge l4 l3) (dg (decide (hp_k h l0 = some (8, 0))) (dp (hp_p h l0 11) fun r3 => (dg (aib 64 h r3 (20 : Int32)) (dl (wz h r3 (Int32.toNatClampNeg (20 : Int32)) (0 : Int32)) fun h6 => (dg (decide (hp_k h6 l0 = some (8, 0))) (dp (hp_p h6 l0 11) fun r9 => (di (F_87 f r9 (20 : Int32) l3 (2 : Int32) h6) fun v14 h11 => (dv (F_88 f r9 (22 : Int32) v14 h11) fun h15 => (dg (decide (hp_k h15 l0 = some (8, 0))) (dl (wz h15 l0 12 ((20 : Int32) + l3)) fun h19 => (B_99_124 f  f l0 l1 (0 : Int32) h19))))))))))) (dg (decide (hp_k h l0 = some (8, 0))) (dp (hp_p h l0 11) fun r22 => (dp (hp_p h l0 10) fun r24 => (dg (aib 64 h r24 (l2 + l4)) (dg (aib 64 h r22 ((20 : Int32) + l4)) (dl (wz h r22 (Int32.toNatClampNeg ((20 : Int32) + l4)) (hp_z h r24 (Int32.toNatClampNeg (l2 + l4)))) fun h28 => ((B_99_54 f g) l0 l1 l2 l3 (l4 + (1 : Int32)) h28))))))))
set_option maxRecDepth 20000 in
theorem sB_99_54 (f : Nat) : ∀ (g : Nat) (l0 : Nat) (l1 : Int32) (l2 : Int32) (l3 : Int32) (l4 : Int32) (h : hp_T) (o : ev_O), B_99_54 f g l0 l1 l2 l3 l4 h = some o → rg 99 54 [.ref l0, .int l1, .int l2, .int l3, .int l4] [] h o := by
  intro g
  induction g with
  | zero =>
    intro l0 l1 l2 l3 l4  h o hB
    rw [B_99_54] at hB
    cases hB
  | succ g ih =>
    intro l0 l1 l2 l3 l4  h o hB
    rw [B_99_54] at hB
    refine rg_p rfl rfl ?_
    refine rg_p rfl rfl ?_
    rcases db_e hB with ⟨q1, hB⟩ | ⟨q1, hB⟩
    · refine rg_bt (t := 85) (pc' := 60) rfl rfl q1 ?_
      refine rg_p rfl rfl ?_
      obtain ⟨c2, hB⟩ := dg_e hB
      obtain ⟨r3, p4, hB⟩ := dp_e hB
      refine rg_gp rfl rfl rfl (of_decide_eq_true c2) p4 ?_
      refine rg_bi (v := (20 : Int32)) rfl (by decide) ?_
      refine rg_ic (v := (0 : Int32)) rfl (by decide) ?_
      obtain ⟨c5, hB⟩ := dg_e hB
      obtain ⟨h6, e7, hB⟩ := dl_e hB
      refine rg_is rfl (ai_of c5) e7 ?_
      show rg 99 93 _ _ _ _
      refine rg_p rfl rfl ?_
      obtain ⟨c8, hB⟩ := dg_e hB
      obtain ⟨r9, p10, hB⟩ := dp_e hB
      refine rg_gp rfl rfl rfl (of_decide_eq_true c8) p10 ?_
      refine rg_bi (v := (22 : Int32)) rfl (by decide) ?_
      refine rg_p rfl rfl ?_
      refine rg_gp rfl rfl rfl (of_decide_eq_true c8) p10 ?_
      refine rg_bi (v := (20 : Int32)) rfl (by decide) ?_
      show rg 99 105 _ _ _ _
      refine rg_p rfl rfl ?_
      refine rg_ic (v := (2 : Int32)) rfl (by decide) ?_
      rcases di_e hB with ⟨v14, h11, z12, hB⟩ | ⟨q13, h11, z12, hB⟩
      · refine rg_call (rg_s9 (n := 4) (as := [.ref r9, .int (20 : Int32), .int l3, .int (2 : Int32)]) (ar := []) rfl (rg_s0 rfl) rfl rfl (Nat.le_of_ble_eq_true rfl) rfl rfl (Nat.le_of_ble_eq_true rfl)) (sF_87 z12) ?_
        rcases dv_e hB with ⟨h15, z16, hB⟩ | ⟨q17, h15, z16, hB⟩
        · refine rg_call (rg_s9 (n := 3) (as := [.ref r9, .int (22 : Int32), .int v14]) (ar := []) rfl (rg_s0 rfl) rfl rfl (Nat.le_of_ble_eq_true rfl) rfl rfl (Nat.le_of_ble_eq_true rfl)) (sF_88 z16) ?_
          refine rg_p rfl rfl ?_
          refine rg_bi (v := (20 : Int32)) rfl (by decide) ?_
          refine rg_p rfl rfl ?_
          refine rg_p rfl rfl ?_
          obtain ⟨c18, hB⟩ := dg_e hB
          obtain ⟨h19, e20, hB⟩ := dl_e hB
          refine rg_pi rfl rfl rfl (of_decide_eq_true c18) e20 ?_
          show rg 99 121 _ _ _ _
          refine rg_ic (v := (0 : Int32)) rfl (by decide) ?_
          refine rg_p (L' := [.ref l0, .int l1, .int l2, .int l3, .int (0 : Int32)]) rfl rfl ?_
          exact sB_99_124 f  f _ _ _ _ _ h19 _ hB
        · subst hB
          exact rg_callX (rg_s9 (n := 3) (as := [.ref r9, .int (22 : Int32), .int v14]) (ar := []) rfl (rg_s0 rfl) rfl rfl (Nat.le_of_ble_eq_true rfl) rfl rfl (Nat.le_of_ble_eq_true rfl)) (sF_88 z16)
      · subst hB
        exact rg_callX (rg_s9 (n := 4) (as := [.ref r9, .int (20 : Int32), .int l3, .int (2 : Int32)]) (ar := []) rfl (rg_s0 rfl) rfl rfl (Nat.le_of_ble_eq_true rfl) rfl rfl (Nat.le_of_ble_eq_true rfl)) (sF_87 z12)
    · refine rg_bf (t := 85) (pc' := 60) rfl rfl q1 ?_
      refine rg_p rfl rfl ?_
      obtain ⟨c21, hB⟩ := dg_e hB
      obtain ⟨r22, p23, hB⟩ := dp_e hB
      refine rg_gp rfl rfl rfl (of_decide_eq_true c21) p23 ?_
      refine rg_bi (v := (20 : Int32)) rfl (by decide) ?_
      refine rg_p rfl rfl ?_
      refine rg_p rfl rfl ?_
      show rg 99 69 _ _ _ _
      refine rg_p rfl rfl ?_
      obtain ⟨r24, p25, hB⟩ := dp_e hB
      refine rg_gp rfl rfl rfl (of_decide_eq_true c21) p25 ?_
      refine rg_p rfl rfl ?_
      refine rg_p rfl rfl ?_
      refine rg_p rfl rfl ?_
      obtain ⟨c26, hB⟩ := dg_e hB
      refine rg_ia rfl (ai_of c26) ?_
      show rg 99 78 _ _ _ _
      obtain ⟨c27, hB⟩ := dg_e hB
      obtain ⟨h28, e29, hB⟩ := dl_e hB
      refine rg_is rfl (ai_of c27) e29 ?_
      refine rg_p (L' := [.ref l0, .int l1, .int l2, .int l3, .int (l4 + (1 : Int32))]) rfl rfl ?_
      refine rg_p (pc' := 54) rfl rfl ?_
      exact ih _ _ _ _ _ h28 _ hB
def F_99 (f : Nat) (a0 : Nat) (a1 : Int32) (h : hp_T) : Option ev_O := (dg (decide (hp_k h a0 = some (8, 0))) (dp (hp_p h a0 2) fun r2 => (dg (aib 66 h r2 a1) (db (ev_c .eq (hp_z h r2 (Int32.toNatClampNeg a1)) 0) (dp (hp_p h a0 10) fun r6 => (dg (aib 64 h r6 (0 : Int32)) (di (F_90 f r6 (16 : Int32) h) fun v12 h9 => (dg (decide (hp_k h9 a0 = some (8, 0))) (dp (hp_p h9 a0 10) fun r14 => (di (F_90 f r14 (12 : Int32) h9) fun v19 h16 => (dg (decide (hp_k h16 a0 = some (8, 0))) (dv (F_97 f a0 v12 v19 h16) fun h21 => (B_99_54 f  f a0 a1 ((4 : Int32) * ((hp_z h r6 (Int32.toNatClampNeg (0 : Int32))) &&& (15 : Int32))) ((hp_z h a0 12) - ((4 : Int32) * ((hp_z h r6 (Int32.toNatClampNeg (0 : Int32))) &&& (15 : Int32)))) (0 : Int32) h21))))))))) (some (.inl none, h))))))
set_option maxRecDepth 20000 in
theorem sF_99 {f : Nat} {a0 : Nat} {a1 : Int32} {h : hp_T} {o : ev_O} (hB : F_99 f a0 a1 h = some o) : rm 99 [.ref a0, .int a1] h o := by
  unfold F_99 at hB
  refine rm_in (L := [.ref a0, .int a1, .null, .null, .null]) (Nat.le_of_ble_eq_true rfl) rfl ?_
  refine rg_p rfl rfl ?_
  obtain ⟨c1, hB⟩ := dg_e hB
  obtain ⟨r2, p3, hB⟩ := dp_e hB
  refine rg_gp rfl rfl rfl (of_decide_eq_true c1) p3 ?_
  refine rg_p rfl rfl ?_
  obtain ⟨c4, hB⟩ := dg_e hB
  refine rg_ba (t := 66) (by decide) rfl (ai_of c4) ?_
  rcases db_e hB with ⟨q5, hB⟩ | ⟨q5, hB⟩
  · refine rg_bt (t := 10) (pc' := 9) rfl rfl q5 ?_
    refine rg_ic (v := (4 : Int32)) rfl (by decide) ?_
    refine rg_p rfl rfl ?_
    obtain ⟨r6, p7, hB⟩ := dp_e hB
    refine rg_gp rfl rfl rfl (of_decide_eq_true c1) p7 ?_
    refine rg_ic (v := (0 : Int32)) rfl (by decide) ?_
    obtain ⟨c8, hB⟩ := dg_e hB
    refine rg_ia rfl (ai_of c8) ?_
    show rg 99 17 _ _ _ _
    refine rg_bi (v := (15 : Int32)) rfl (by decide) ?_
    refine rg_p rfl rfl ?_
    refine rg_p rfl rfl ?_
    refine rg_p (L' := [.ref a0, .int a1, .int ((4 : Int32) * ((hp_z h r6 (Int32.toNatClampNeg (0 : Int32))) &&& (15 : Int32))), .null, .null]) rfl rfl ?_
    refine rg_p rfl rfl ?_
    refine rg_gz rfl rfl rfl (of_decide_eq_true c1) ?_
    show rg 99 26 _ _ _ _
    refine rg_p rfl rfl ?_
    refine rg_p rfl rfl ?_
    refine rg_p (L' := [.ref a0, .int a1, .int ((4 : Int32) * ((hp_z h r6 (Int32.toNatClampNeg (0 : Int32))) &&& (15 : Int32))), .int ((hp_z h a0 12) - ((4 : Int32) * ((hp_z h r6 (Int32.toNatClampNeg (0 : Int32))) &&& (15 : Int32)))), .null]) rfl rfl ?_
    refine rg_p rfl rfl ?_
    refine rg_p rfl rfl ?_
    refine rg_gp rfl rfl rfl (of_decide_eq_true c1) p7 ?_
    show rg 99 34 _ _ _ _
    refine rg_bi (v := (16 : Int32)) rfl (by decide) ?_
    rcases di_e hB with ⟨v12, h9, z10, hB⟩ | ⟨q11, h9, z10, hB⟩
    · refine rg_call (rg_s9 (n := 2) (as := [.ref r6, .int (16 : Int32)]) (ar := []) rfl (rg_s0 rfl) rfl rfl (Nat.le_of_ble_eq_true rfl) rfl rfl (Nat.le_of_ble_eq_true rfl)) (sF_90 z10) ?_
      refine rg_p rfl rfl ?_
      obtain ⟨c13, hB⟩ := dg_e hB
      obtain ⟨r14, p15, hB⟩ := dp_e hB
      refine rg_gp rfl rfl rfl (of_decide_eq_true c13) p15 ?_
      refine rg_bi (v := (12 : Int32)) rfl (by decide) ?_
      rcases di_e hB with ⟨v19, h16, z17, hB⟩ | ⟨q18, h16, z17, hB⟩
      · refine rg_call (rg_s9 (n := 2) (as := [.ref r14, .int (12 : Int32)]) (ar := []) rfl (rg_s0 rfl) rfl rfl (Nat.le_of_ble_eq_true rfl) rfl rfl (Nat.le_of_ble_eq_true rfl)) (sF_90 z17) ?_
        obtain ⟨c20, hB⟩ := dg_e hB
        rcases dv_e hB with ⟨h21, z22, hB⟩ | ⟨q23, h21, z22, hB⟩
        · refine rg_call (rg_v9 (n := 2) (b := a0) (as := [.ref a0, .int v12, .int v19]) (ar := []) rfl rfl rfl (Nat.le_of_ble_eq_true rfl) rfl rfl (Nat.le_of_ble_eq_true rfl) (of_decide_eq_true c20)) (sF_97 z22) ?_
          refine rg_ic (v := (0 : Int32)) rfl (by decide) ?_
          refine rg_p (L' := [.ref a0, .int a1, .int ((4 : Int32) * ((hp_z h r6 (Int32.toNatClampNeg (0 : Int32))) &&& (15 : Int32))), .int ((hp_z h a0 12) - ((4 : Int32) * ((hp_z h r6 (Int32.toNatClampNeg (0 : Int32))) &&& (15 : Int32)))), .int (0 : Int32)]) rfl rfl ?_
          exact sB_99_54 f  f _ _ _ _ _ h21 _ hB
        · subst hB
          exact rg_callX (rg_v9 (n := 2) (b := a0) (as := [.ref a0, .int v12, .int v19]) (ar := []) rfl rfl rfl (Nat.le_of_ble_eq_true rfl) rfl rfl (Nat.le_of_ble_eq_true rfl) (of_decide_eq_true c20)) (sF_97 z22)
      · subst hB
        exact rg_callX (rg_s9 (n := 2) (as := [.ref r14, .int (12 : Int32)]) (ar := []) rfl (rg_s0 rfl) rfl rfl (Nat.le_of_ble_eq_true rfl) rfl rfl (Nat.le_of_ble_eq_true rfl)) (sF_90 z17)
    · subst hB
      exact rg_callX (rg_s9 (n := 2) (as := [.ref r6, .int (16 : Int32)]) (ar := []) rfl (rg_s0 rfl) rfl rfl (Nat.le_of_ble_eq_true rfl) rfl rfl (Nat.le_of_ble_eq_true rfl)) (sF_90 z10)
  · refine rg_bf (t := 10) (pc' := 9) rfl rfl q5 ?_
    cases hB
    exact rg_rv rfl rfl
-- 100: RouteHouseModel.moveEntry(II)V
def B_100_182 (f : Nat) : Nat → Nat → Int32 → Int32 → Int32 → hp_T → Option ev_O
  | 0, _, _, _, _, _ => none
  | g + 1, l0, l1, l2, l3, h => (db (ev_c .ge l3 (4000 : Int32)) (some (.inl none, h)) (dg (decide (hp_k h l0 = some (8, 0))) (dp (hp_p h l0 40) fun r3 => (dg (aib 64 h r3 (((4000 : Int32) * l2) + l3)) (dg (aib 64 h r3 (((4000 : Int32) * l1) + l3)) (dl (wz h r3 (Int32.toNatClampNeg (((4000 : Int32) * l1) + l3)) (hp_z h r3 (Int32.toNatClampNeg (((4000 : Int32) * l2) + l3)))) fun h7 => (dg (decide (hp_k h7 l0 = some (8, 0))) (dp (hp_p h7 l0 41) fun r10 => (dg (aib 66 h7 r10 (((4000 : Int32) * l2) + l3)) (dg (aib 66 h7 r10 (((4000 : Int32) * l1) + l3)) (dl (wz h7 r10 (Int32.toNatClampNeg (((4000 : Int32) * l1) + l3)) (vp_nar .boolean (hp_z h7 r10 (Int32.toNatClampNeg (((4000 : Int32) * l2) + l3))))) fun h14 => ((B_100_182 f g) l0 l1 l2 (l3 + (1 : Int32)) h14))))))))))))
set_option maxRecDepth 20000 in
theorem sB_100_182 (f : Nat) : ∀ (g : Nat) (l0 : Nat) (l1 : Int32) (l2 : Int32) (l3 : Int32) (h : hp_T) (o : ev_O), B_100_182 f g l0 l1 l2 l3 h = some o → rg 100 182 [.ref l0, .int l1, .int l2, .int l3] [] h o := by
  intro g
  induction g with
  | zero =>
    intro l0 l1 l2 l3  h o hB
    rw [B_100_182] at hB
    cases hB
  | succ g ih =>
    intro l0 l1 l2 l3  h o hB
    rw [B_100_182] at hB
    refine rg_p rfl rfl ?_
    refine rg_si (v := (4000 : Int32)) rfl (by decide) ?_
    rcases db_e hB with ⟨q1, hB⟩ | ⟨q1, hB⟩
    · refine rg_bt (t := 243) (pc' := 189) rfl rfl q1 ?_
      cases hB
      exact rg_rv rfl rfl
    · refine rg_bf (t := 243) (pc' := 189) rfl rfl q1 ?_
      refine rg_p rfl rfl ?_
      obtain ⟨c2, hB⟩ := dg_e hB
      obtain ⟨r3, p4, hB⟩ := dp_e hB
      refine rg_gp rfl rfl rfl (of_decide_eq_true c2) p4 ?_
      refine rg_si (v := (4000 : Int32)) rfl (by decide) ?_
      refine rg_p rfl rfl ?_
      refine rg_p rfl rfl ?_
      show rg 100 198 _ _ _ _
      refine rg_p rfl rfl ?_
      refine rg_p rfl rfl ?_
      refine rg_p rfl rfl ?_
      refine rg_gp rfl rfl rfl (of_decide_eq_true c2) p4 ?_
      refine rg_si (v := (4000 : Int32)) rfl (by decide) ?_
      refine rg_p rfl rfl ?_
      show rg 100 208 _ _ _ _
      refine rg_p rfl rfl ?_
      refine rg_p rfl rfl ?_
      refine rg_p rfl rfl ?_
      obtain ⟨c5, hB⟩ := dg_e hB
      refine rg_ia rfl (ai_of c5) ?_
      obtain ⟨c6, hB⟩ := dg_e hB
      obtain ⟨h7, e8, hB⟩ := dl_e hB
      refine rg_is rfl (ai_of c6) e8 ?_
      refine rg_p rfl rfl ?_
      show rg 100 214 _ _ _ _
      obtain ⟨c9, hB⟩ := dg_e hB
      obtain ⟨r10, p11, hB⟩ := dp_e hB
      refine rg_gp rfl rfl rfl (of_decide_eq_true c9) p11 ?_
      refine rg_si (v := (4000 : Int32)) rfl (by decide) ?_
      refine rg_p rfl rfl ?_
      refine rg_p rfl rfl ?_
      refine rg_p rfl rfl ?_
      refine rg_p rfl rfl ?_
      show rg 100 224 _ _ _ _
      refine rg_p rfl rfl ?_
      refine rg_gp rfl rfl rfl (of_decide_eq_true c9) p11 ?_
      refine rg_si (v := (4000 : Int32)) rfl (by decide) ?_
      refine rg_p rfl rfl ?_
      refine rg_p rfl rfl ?_
      refine rg_p rfl rfl ?_
      show rg 100 234 _ _ _ _
      refine rg_p rfl rfl ?_
      obtain ⟨c12, hB⟩ := dg_e hB
      refine rg_ba (t := 66) (by decide) rfl (ai_of c12) ?_
      obtain ⟨c13, hB⟩ := dg_e hB
      obtain ⟨h14, e15, hB⟩ := dl_e hB
      refine rg_bs (t := 66) (ty := .boolean) (by decide) rfl rfl (ai_of c13) e15 ?_
      refine rg_p (L' := [.ref l0, .int l1, .int l2, .int (l3 + (1 : Int32))]) rfl rfl ?_
      refine rg_p (pc' := 182) rfl rfl ?_
      exact ih _ _ _ _ h14 _ hB
def B_100_146 (f : Nat) : Nat → Nat → Int32 → Int32 → Int32 → hp_T → Option ev_O
  | 0, _, _, _, _, _ => none
  | g + 1, l0, l1, l2, l3, h => (db (ev_c .ge l3 (8 : Int32)) (B_100_182 f  f l0 l1 l2 (0 : Int32) h) (dg (decide (hp_k h l0 = some (8, 0))) (dp (hp_p h l0 37) fun r3 => (dg (aib 64 h r3 (((8 : Int32) * l2) + l3)) (dg (aib 64 h r3 (((8 : Int32) * l1) + l3)) (dl (wz h r3 (Int32.toNatClampNeg (((8 : Int32) * l1) + l3)) (hp_z h r3 (Int32.toNatClampNeg (((8 : Int32) * l2) + l3)))) fun h7 => ((B_100_146 f g) l0 l1 l2 (l3 + (1 : Int32)) h7)))))))
set_option maxRecDepth 20000 in
theorem sB_100_146 (f : Nat) : ∀ (g : Nat) (l0 : Nat) (l1 : Int32) (l2 : Int32) (l3 : Int32) (h : hp_T) (o : ev_O), B_100_146 f g l0 l1 l2 l3 h = some o → rg 100 146 [.ref l0, .int l1, .int l2, .int l3] [] h o := by
  intro g
  induction g with
  | zero =>
    intro l0 l1 l2 l3  h o hB
    rw [B_100_146] at hB
    cases hB
  | succ g ih =>
    intro l0 l1 l2 l3  h o hB
    rw [B_100_146] at hB
    refine rg_p rfl rfl ?_
    refine rg_bi (v := (8 : Int32)) rfl (by decide) ?_
    rcases db_e hB with ⟨q1, hB⟩ | ⟨q1, hB⟩
    · refine rg_bt (t := 180) (pc' := 152) rfl rfl q1 ?_
      refine rg_ic (v := (0 : Int32)) rfl (by decide) ?_
      refine rg_p (L' := [.ref l0, .int l1, .int l2, .int (0 : Int32)]) rfl rfl ?_
      exact sB_100_182 f  f _ _ _ _ h _ hB
    · refine rg_bf (t := 180) (pc' := 152) rfl rfl q1 ?_
      refine rg_p rfl rfl ?_
      obtain ⟨c2, hB⟩ := dg_e hB
      obtain ⟨r3, p4, hB⟩ := dp_e hB
      refine rg_gp rfl rfl rfl (of_decide_eq_true c2) p4 ?_
      refine rg_bi (v := (8 : Int32)) rfl (by decide) ?_
      refine rg_p rfl rfl ?_
      refine rg_p rfl rfl ?_
      show rg 100 160 _ _ _ _
      refine rg_p rfl rfl ?_
      refine rg_p rfl rfl ?_
      refine rg_p rfl rfl ?_
      refine rg_gp rfl rfl rfl (of_decide_eq_true c2) p4 ?_
      refine rg_bi (v := (8 : Int32)) rfl (by decide) ?_
      refine rg_p rfl rfl ?_
      show rg 100 169 _ _ _ _
      refine rg_p rfl rfl ?_
      refine rg_p rfl rfl ?_
      refine rg_p rfl rfl ?_
      obtain ⟨c5, hB⟩ := dg_e hB
      refine rg_ia rfl (ai_of c5) ?_
      obtain ⟨c6, hB⟩ := dg_e hB
      obtain ⟨h7, e8, hB⟩ := dl_e hB
      refine rg_is rfl (ai_of c6) e8 ?_
      refine rg_p (L' := [.ref l0, .int l1, .int l2, .int (l3 + (1 : Int32))]) rfl rfl ?_
      show rg 100 177 _ _ _ _
      refine rg_p (pc' := 146) rfl rfl ?_
      exact ih _ _ _ _ h7 _ hB
def B_100_110 (f : Nat) : Nat → Nat → Int32 → Int32 → Int32 → hp_T → Option ev_O
  | 0, _, _, _, _, _ => none
  | g + 1, l0, l1, l2, l3, h => (db (ev_c .ge l3 (60 : Int32)) (B_100_146 f  f l0 l1 l2 (0 : Int32) h) (dg (decide (hp_k h l0 = some (8, 0))) (dp (hp_p h l0 36) fun r3 => (dg (aib 64 h r3 (((60 : Int32) * l2) + l3)) (dg (aib 64 h r3 (((60 : Int32) * l1) + l3)) (dl (wz h r3 (Int32.toNatClampNeg (((60 : Int32) * l1) + l3)) (hp_z h r3 (Int32.toNatClampNeg (((60 : Int32) * l2) + l3)))) fun h7 => ((B_100_110 f g) l0 l1 l2 (l3 + (1 : Int32)) h7)))))))
set_option maxRecDepth 20000 in
theorem sB_100_110 (f : Nat) : ∀ (g : Nat) (l0 : Nat) (l1 : Int32) (l2 : Int32) (l3 : Int32) (h : hp_T) (o : ev_O), B_100_110 f g l0 l1 l2 l3 h = some o → rg 100 110 [.ref l0, .int l1, .int l2, .int l3] [] h o := by
  intro g
  induction g with
  | zero =>
    intro l0 l1 l2 l3  h o hB
    rw [B_100_110] at hB
    cases hB
  | succ g ih =>
    intro l0 l1 l2 l3  h o hB
    rw [B_100_110] at hB
    refine rg_p rfl rfl ?_
    refine rg_bi (v := (60 : Int32)) rfl (by decide) ?_
    rcases db_e hB with ⟨q1, hB⟩ | ⟨q1, hB⟩
    · refine rg_bt (t := 144) (pc' := 116) rfl rfl q1 ?_
      refine rg_ic (v := (0 : Int32)) rfl (by decide) ?_
      refine rg_p (L' := [.ref l0, .int l1, .int l2, .int (0 : Int32)]) rfl rfl ?_
      exact sB_100_146 f  f _ _ _ _ h _ hB
    · refine rg_bf (t := 144) (pc' := 116) rfl rfl q1 ?_
      refine rg_p rfl rfl ?_
      obtain ⟨c2, hB⟩ := dg_e hB
      obtain ⟨r3, p4, hB⟩ := dp_e hB
      refine rg_gp rfl rfl rfl (of_decide_eq_true c2) p4 ?_
      refine rg_bi (v := (60 : Int32)) rfl (by decide) ?_
      refine rg_p rfl rfl ?_
      refine rg_p rfl rfl ?_
      show rg 100 124 _ _ _ _
      refine rg_p rfl rfl ?_
      refine rg_p rfl rfl ?_
      refine rg_p rfl rfl ?_
      refine rg_gp rfl rfl rfl (of_decide_eq_true c2) p4 ?_
      refine rg_bi (v := (60 : Int32)) rfl (by decide) ?_
      refine rg_p rfl rfl ?_
      show rg 100 133 _ _ _ _
      refine rg_p rfl rfl ?_
      refine rg_p rfl rfl ?_
      refine rg_p rfl rfl ?_
      obtain ⟨c5, hB⟩ := dg_e hB
      refine rg_ia rfl (ai_of c5) ?_
      obtain ⟨c6, hB⟩ := dg_e hB
      obtain ⟨h7, e8, hB⟩ := dl_e hB
      refine rg_is rfl (ai_of c6) e8 ?_
      refine rg_p (L' := [.ref l0, .int l1, .int l2, .int (l3 + (1 : Int32))]) rfl rfl ?_
      show rg 100 141 _ _ _ _
      refine rg_p (pc' := 110) rfl rfl ?_
      exact ih _ _ _ _ h7 _ hB
def F_100 (f : Nat) (a0 : Nat) (a1 : Int32) (a2 : Int32) (h : hp_T) : Option ev_O := (dg (decide (hp_k h a0 = some (8, 0))) (dp (hp_p h a0 29) fun r2 => (dg (aib 64 h r2 a2) (dg (aib 64 h r2 a1) (dl (wz h r2 (Int32.toNatClampNeg a1) (hp_z h r2 (Int32.toNatClampNeg a2))) fun h6 => (dg (decide (hp_k h6 a0 = some (8, 0))) (dp (hp_p h6 a0 30) fun r9 => (dg (aib 64 h6 r9 a2) (dg (aib 64 h6 r9 a1) (dl (wz h6 r9 (Int32.toNatClampNeg a1) (hp_z h6 r9 (Int32.toNatClampNeg a2))) fun h13 => (dg (decide (hp_k h13 a0 = some (8, 0))) (dp (hp_p h13 a0 31) fun r16 => (dg (aib 64 h13 r16 a2) (dg (aib 64 h13 r16 a1) (dl (wz h13 r16 (Int32.toNatClampNeg a1) (hp_z h13 r16 (Int32.toNatClampNeg a2))) fun h20 => (dg (decide (hp_k h20 a0 = some (8, 0))) (dp (hp_p h20 a0 32) fun r23 => (dg (aib 64 h20 r23 a2) (dg (aib 64 h20 r23 a1) (dl (wz h20 r23 (Int32.toNatClampNeg a1) (hp_z h20 r23 (Int32.toNatClampNeg a2))) fun h27 => (dg (decide (hp_k h27 a0 = some (8, 0))) (dp (hp_p h27 a0 33) fun r30 => (dg (aib 64 h27 r30 a2) (dg (aib 64 h27 r30 a1) (dl (wz h27 r30 (Int32.toNatClampNeg a1) (hp_z h27 r30 (Int32.toNatClampNeg a2))) fun h34 => (dg (decide (hp_k h34 a0 = some (8, 0))) (dp (hp_p h34 a0 34) fun r37 => (dg (aib 64 h34 r37 a2) (dg (aib 64 h34 r37 a1) (dl (wz h34 r37 (Int32.toNatClampNeg a1) (hp_z h34 r37 (Int32.toNatClampNeg a2))) fun h41 => (dg (decide (hp_k h41 a0 = some (8, 0))) (dp (hp_p h41 a0 35) fun r44 => (dg (aib 64 h41 r44 a2) (dg (aib 64 h41 r44 a1) (dl (wz h41 r44 (Int32.toNatClampNeg a1) (hp_z h41 r44 (Int32.toNatClampNeg a2))) fun h48 => (dg (decide (hp_k h48 a0 = some (8, 0))) (dp (hp_p h48 a0 38) fun r51 => (dg (aib 64 h48 r51 a2) (dg (aib 64 h48 r51 a1) (dl (wz h48 r51 (Int32.toNatClampNeg a1) (hp_z h48 r51 (Int32.toNatClampNeg a2))) fun h55 => (dg (decide (hp_k h55 a0 = some (8, 0))) (dp (hp_p h55 a0 39) fun r58 => (dg (aib 64 h55 r58 a2) (dg (aib 64 h55 r58 a1) (dl (wz h55 r58 (Int32.toNatClampNeg a1) (hp_z h55 r58 (Int32.toNatClampNeg a2))) fun h62 => (B_100_110 f  f a0 a1 a2 (0 : Int32) h62))))))))))))))))))))))))))))))))))))))))))))))
set_option maxRecDepth 20000 in
theorem sF_100 {f : Nat} {a0 : Nat} {a1 : Int32} {a2 : Int32} {h : hp_T} {o : ev_O} (hB : F_100 f a0 a1 a2 h = some o) : rm 100 [.ref a0, .int a1, .int a2] h o := by
  unfold F_100 at hB
  refine rm_in (L := [.ref a0, .int a1, .int a2, .null]) (Nat.le_of_ble_eq_true rfl) rfl ?_
  refine rg_p rfl rfl ?_
  obtain ⟨c1, hB⟩ := dg_e hB
  obtain ⟨r2, p3, hB⟩ := dp_e hB
  refine rg_gp rfl rfl rfl (of_decide_eq_true c1) p3 ?_
  refine rg_p rfl rfl ?_
  refine rg_p rfl rfl ?_
  refine rg_gp rfl rfl rfl (of_decide_eq_true c1) p3 ?_
  show rg 100 9 _ _ _ _
  refine rg_p rfl rfl ?_
  obtain ⟨c4, hB⟩ := dg_e hB
  refine rg_ia rfl (ai_of c4) ?_
  obtain ⟨c5, hB⟩ := dg_e hB
  obtain ⟨h6, e7, hB⟩ := dl_e hB
  refine rg_is rfl (ai_of c5) e7 ?_
  refine rg_p rfl rfl ?_
  obtain ⟨c8, hB⟩ := dg_e hB
  obtain ⟨r9, p10, hB⟩ := dp_e hB
  refine rg_gp rfl rfl rfl (of_decide_eq_true c8) p10 ?_
  refine rg_p rfl rfl ?_
  show rg 100 17 _ _ _ _
  refine rg_p rfl rfl ?_
  refine rg_gp rfl rfl rfl (of_decide_eq_true c8) p10 ?_
  refine rg_p rfl rfl ?_
  obtain ⟨c11, hB⟩ := dg_e hB
  refine rg_ia rfl (ai_of c11) ?_
  obtain ⟨c12, hB⟩ := dg_e hB
  obtain ⟨h13, e14, hB⟩ := dl_e hB
  refine rg_is rfl (ai_of c12) e14 ?_
  refine rg_p rfl rfl ?_
  show rg 100 25 _ _ _ _
  obtain ⟨c15, hB⟩ := dg_e hB
  obtain ⟨r16, p17, hB⟩ := dp_e hB
  refine rg_gp rfl rfl rfl (of_decide_eq_true c15) p17 ?_
  refine rg_p rfl rfl ?_
  refine rg_p rfl rfl ?_
  refine rg_gp rfl rfl rfl (of_decide_eq_true c15) p17 ?_
  refine rg_p rfl rfl ?_
  obtain ⟨c18, hB⟩ := dg_e hB
  refine rg_ia rfl (ai_of c18) ?_
  show rg 100 35 _ _ _ _
  obtain ⟨c19, hB⟩ := dg_e hB
  obtain ⟨h20, e21, hB⟩ := dl_e hB
  refine rg_is rfl (ai_of c19) e21 ?_
  refine rg_p rfl rfl ?_
  obtain ⟨c22, hB⟩ := dg_e hB
  obtain ⟨r23, p24, hB⟩ := dp_e hB
  refine rg_gp rfl rfl rfl (of_decide_eq_true c22) p24 ?_
  refine rg_p rfl rfl ?_
  refine rg_p rfl rfl ?_
  refine rg_gp rfl rfl rfl (of_decide_eq_true c22) p24 ?_
  show rg 100 45 _ _ _ _
  refine rg_p rfl rfl ?_
  obtain ⟨c25, hB⟩ := dg_e hB
  refine rg_ia rfl (ai_of c25) ?_
  obtain ⟨c26, hB⟩ := dg_e hB
  obtain ⟨h27, e28, hB⟩ := dl_e hB
  refine rg_is rfl (ai_of c26) e28 ?_
  refine rg_p rfl rfl ?_
  obtain ⟨c29, hB⟩ := dg_e hB
  obtain ⟨r30, p31, hB⟩ := dp_e hB
  refine rg_gp rfl rfl rfl (of_decide_eq_true c29) p31 ?_
  refine rg_p rfl rfl ?_
  show rg 100 53 _ _ _ _
  refine rg_p rfl rfl ?_
  refine rg_gp rfl rfl rfl (of_decide_eq_true c29) p31 ?_
  refine rg_p rfl rfl ?_
  obtain ⟨c32, hB⟩ := dg_e hB
  refine rg_ia rfl (ai_of c32) ?_
  obtain ⟨c33, hB⟩ := dg_e hB
  obtain ⟨h34, e35, hB⟩ := dl_e hB
  refine rg_is rfl (ai_of c33) e35 ?_
  refine rg_p rfl rfl ?_
  show rg 100 61 _ _ _ _
  obtain ⟨c36, hB⟩ := dg_e hB
  obtain ⟨r37, p38, hB⟩ := dp_e hB
  refine rg_gp rfl rfl rfl (of_decide_eq_true c36) p38 ?_
  refine rg_p rfl rfl ?_
  refine rg_p rfl rfl ?_
  refine rg_gp rfl rfl rfl (of_decide_eq_true c36) p38 ?_
  refine rg_p rfl rfl ?_
  obtain ⟨c39, hB⟩ := dg_e hB
  refine rg_ia rfl (ai_of c39) ?_
  show rg 100 71 _ _ _ _
  obtain ⟨c40, hB⟩ := dg_e hB
  obtain ⟨h41, e42, hB⟩ := dl_e hB
  refine rg_is rfl (ai_of c40) e42 ?_
  refine rg_p rfl rfl ?_
  obtain ⟨c43, hB⟩ := dg_e hB
  obtain ⟨r44, p45, hB⟩ := dp_e hB
  refine rg_gp rfl rfl rfl (of_decide_eq_true c43) p45 ?_
  refine rg_p rfl rfl ?_
  refine rg_p rfl rfl ?_
  refine rg_gp rfl rfl rfl (of_decide_eq_true c43) p45 ?_
  show rg 100 81 _ _ _ _
  refine rg_p rfl rfl ?_
  obtain ⟨c46, hB⟩ := dg_e hB
  refine rg_ia rfl (ai_of c46) ?_
  obtain ⟨c47, hB⟩ := dg_e hB
  obtain ⟨h48, e49, hB⟩ := dl_e hB
  refine rg_is rfl (ai_of c47) e49 ?_
  refine rg_p rfl rfl ?_
  obtain ⟨c50, hB⟩ := dg_e hB
  obtain ⟨r51, p52, hB⟩ := dp_e hB
  refine rg_gp rfl rfl rfl (of_decide_eq_true c50) p52 ?_
  refine rg_p rfl rfl ?_
  show rg 100 89 _ _ _ _
  refine rg_p rfl rfl ?_
  refine rg_gp rfl rfl rfl (of_decide_eq_true c50) p52 ?_
  refine rg_p rfl rfl ?_
  obtain ⟨c53, hB⟩ := dg_e hB
  refine rg_ia rfl (ai_of c53) ?_
  obtain ⟨c54, hB⟩ := dg_e hB
  obtain ⟨h55, e56, hB⟩ := dl_e hB
  refine rg_is rfl (ai_of c54) e56 ?_
  refine rg_p rfl rfl ?_
  show rg 100 97 _ _ _ _
  obtain ⟨c57, hB⟩ := dg_e hB
  obtain ⟨r58, p59, hB⟩ := dp_e hB
  refine rg_gp rfl rfl rfl (of_decide_eq_true c57) p59 ?_
  refine rg_p rfl rfl ?_
  refine rg_p rfl rfl ?_
  refine rg_gp rfl rfl rfl (of_decide_eq_true c57) p59 ?_
  refine rg_p rfl rfl ?_
  obtain ⟨c60, hB⟩ := dg_e hB
  refine rg_ia rfl (ai_of c60) ?_
  show rg 100 107 _ _ _ _
  obtain ⟨c61, hB⟩ := dg_e hB
  obtain ⟨h62, e63, hB⟩ := dl_e hB
  refine rg_is rfl (ai_of c61) e63 ?_
  refine rg_ic (v := (0 : Int32)) rfl (by decide) ?_
  refine rg_p (L' := [.ref a0, .int a1, .int a2, .int (0 : Int32)]) rfl rfl ?_
  exact sB_100_110 f  f _ _ _ _ h62 _ hB
-- 101: RouteHouseModel.drop(I)V
def B_101_2 (f : Nat) : Nat → Nat → Int32 → hp_T → Option ev_O
  | 0, _, _, _ => none
  | g + 1, l0, l2, h => (dg (decide (hp_k h l0 = some (8, 0))) (db (ev_c .ge (l2 + (1 : Int32)) (hp_z h l0 28)) (dl (wz h l0 28 ((hp_z h l0 28) - (1 : Int32))) fun h3 => (some (.inl none, h3))) (dv (F_100 f l0 l2 (l2 + (1 : Int32)) h) fun h5 => ((B_101_2 f g) l0 (l2 + (1 : Int32)) h5))))
set_option maxRecDepth 20000 in
theorem sB_101_2 (f : Nat) : ∀ (g : Nat) (l0 : Nat) (l2 : Int32) (w1 : Value) (h : hp_T) (o : ev_O), B_101_2 f g l0 l2 h = some o → rg 101 2 [.ref l0, w1, .int l2] [] h o := by
  intro g
  induction g with
  | zero =>
    intro l0 l2 w1 h o hB
    rw [B_101_2] at hB
    cases hB
  | succ g ih =>
    intro l0 l2 w1 h o hB
    rw [B_101_2] at hB
    refine rg_p rfl rfl ?_
    refine rg_ic (v := (1 : Int32)) rfl (by decide) ?_
    refine rg_p rfl rfl ?_
    refine rg_p rfl rfl ?_
    obtain ⟨c1, hB⟩ := dg_e hB
    refine rg_gz rfl rfl rfl (of_decide_eq_true c1) ?_
    show rg 101 9 _ _ _ _
    rcases db_e hB with ⟨q2, hB⟩ | ⟨q2, hB⟩
    · refine rg_bt (t := 26) (pc' := 12) rfl rfl q2 ?_
      refine rg_p rfl rfl ?_
      refine rg_p rfl rfl ?_
      refine rg_gz rfl rfl rfl (of_decide_eq_true c1) ?_
      refine rg_ic (v := (1 : Int32)) rfl (by decide) ?_
      refine rg_p rfl rfl ?_
      show rg 101 33 _ _ _ _
      obtain ⟨h3, e4, hB⟩ := dl_e hB
      refine rg_pi rfl rfl rfl (of_decide_eq_true c1) e4 ?_
      cases hB
      exact rg_rv rfl rfl
    · refine rg_bf (t := 26) (pc' := 12) rfl rfl q2 ?_
      refine rg_p rfl rfl ?_
      refine rg_p rfl rfl ?_
      refine rg_p rfl rfl ?_
      refine rg_ic (v := (1 : Int32)) rfl (by decide) ?_
      refine rg_p rfl rfl ?_
      show rg 101 17 _ _ _ _
      rcases dv_e hB with ⟨h5, z6, hB⟩ | ⟨q7, h5, z6, hB⟩
      · refine rg_call (rg_v9 (n := 2) (b := l0) (as := [.ref l0, .int l2, .int (l2 + (1 : Int32))]) (ar := []) rfl rfl rfl (Nat.le_of_ble_eq_true rfl) rfl rfl (Nat.le_of_ble_eq_true rfl) (of_decide_eq_true c1)) (sF_100 z6) ?_
        refine rg_p (L' := [.ref l0, w1, .int (l2 + (1 : Int32))]) rfl rfl ?_
        refine rg_p (pc' := 2) rfl rfl ?_
        exact ih _ _ _ h5 _ hB
      · subst hB
        exact rg_callX (rg_v9 (n := 2) (b := l0) (as := [.ref l0, .int l2, .int (l2 + (1 : Int32))]) (ar := []) rfl rfl rfl (Nat.le_of_ble_eq_true rfl) rfl rfl (Nat.le_of_ble_eq_true rfl) (of_decide_eq_true c1)) (sF_100 z6)
def F_101 (f : Nat) (a0 : Nat) (a1 : Int32) (h : hp_T) : Option ev_O := (B_101_2 f  f a0 a1 h)
set_option maxRecDepth 20000 in
theorem sF_101 {f : Nat} {a0 : Nat} {a1 : Int32} {h : hp_T} {o : ev_O} (hB : F_101 f a0 a1 h = some o) : rm 101 [.ref a0, .int a1] h o := by
  unfold F_101 at hB
  refine rm_in (L := [.ref a0, .int a1, .null]) (Nat.le_of_ble_eq_true rfl) rfl ?_
  refine rg_p rfl rfl ?_
  refine rg_p (L' := [.ref a0, .int a1, .int a1]) rfl rfl ?_
  exact sB_101_2 f  f _ _ _ h _ hB
-- 102: RouteHouseModel.nameOf()I
def F_102 (f : Nat) (a0 : Nat) (h : hp_T) : Option ev_O := (dg (decide (hp_k h a0 = some (8, 0))) (dp (hp_p h a0 10) fun r2 => (di (F_89 f r2 (4 : Int32) h) fun v7 h4 => (dg (decide (hp_k h4 a0 = some (8, 0))) (dp (hp_p h4 a0 10) fun r9 => (dg (aib 64 h4 r9 (9 : Int32)) (some (.inl (some (.int ((v7 <<< ((8 : Int32) &&& 31)) ||| (hp_z h4 r9 (Int32.toNatClampNeg (9 : Int32)))))), h4))))))))
set_option maxRecDepth 20000 in
theorem sF_102 {f : Nat} {a0 : Nat} {h : hp_T} {o : ev_O} (hB : F_102 f a0 h = some o) : rm 102 [.ref a0] h o := by
  unfold F_102 at hB
  refine rm_in (L := [.ref a0]) (Nat.le_of_ble_eq_true rfl) rfl ?_
  refine rg_p rfl rfl ?_
  obtain ⟨c1, hB⟩ := dg_e hB
  obtain ⟨r2, p3, hB⟩ := dp_e hB
  refine rg_gp rfl rfl rfl (of_decide_eq_true c1) p3 ?_
  refine rg_ic (v := (4 : Int32)) rfl (by decide) ?_
  rcases di_e hB with ⟨v7, h4, z5, hB⟩ | ⟨q6, h4, z5, hB⟩
  · refine rg_call (rg_s9 (n := 2) (as := [.ref r2, .int (4 : Int32)]) (ar := []) rfl (rg_s0 rfl) rfl rfl (Nat.le_of_ble_eq_true rfl) rfl rfl (Nat.le_of_ble_eq_true rfl)) (sF_89 z5) ?_
    refine rg_bi (v := (8 : Int32)) rfl (by decide) ?_
    refine rg_p rfl rfl ?_
    refine rg_p rfl rfl ?_
    obtain ⟨c8, hB⟩ := dg_e hB
    obtain ⟨r9, p10, hB⟩ := dp_e hB
    refine rg_gp rfl rfl rfl (of_decide_eq_true c8) p10 ?_
    refine rg_bi (v := (9 : Int32)) rfl (by decide) ?_
    show rg 102 17 _ _ _ _
    obtain ⟨c11, hB⟩ := dg_e hB
    refine rg_ia rfl (ai_of c11) ?_
    refine rg_p rfl rfl ?_
    cases hB
    exact rg_ri rfl rfl rfl
  · subst hB
    exact rg_callX (rg_s9 (n := 2) (as := [.ref r2, .int (4 : Int32)]) (ar := []) rfl (rg_s0 rfl) rfl rfl (Nat.le_of_ble_eq_true rfl) rfl rfl (Nat.le_of_ble_eq_true rfl)) (sF_89 z5)
-- 103: RouteHouseModel.entry()I
def B_103_61 (f : Nat) (C2 : Nat → Int32 → hp_T → Option ev_O) (l0 : Nat) (l1 : Int32) (h : hp_T) : Option ev_O := (C2 l0 (l1 + (1 : Int32)) h)
set_option maxRecDepth 20000 in
theorem sB_103_61 (f : Nat) (C2 : Nat → Int32 → hp_T → Option ev_O) (hC2 : ∀ (l0 : Nat) (l1 : Int32) (h : hp_T) (o : ev_O), C2 l0 l1 h = some o → rg 103 2 [.ref l0, .int l1] [] h o) (l0 : Nat) (l1 : Int32) (h : hp_T) (o : ev_O) (hB : B_103_61 f C2 l0 l1 h = some o) : rg 103 61 [.ref l0, .int l1] [] h o := by
  unfold B_103_61 at hB
  refine rg_p (L' := [.ref l0, .int (l1 + (1 : Int32))]) rfl rfl ?_
  refine rg_p (pc' := 2) rfl rfl ?_
  exact hC2 _ _ h _ hB
def B_103_2 (f : Nat) : Nat → Nat → Int32 → hp_T → Option ev_O
  | 0, _, _, _ => none
  | g + 1, l0, l1, h => (dg (decide (hp_k h l0 = some (8, 0))) (db (ev_c .ge l1 (hp_z h l0 28)) (some (.inl (some (.int (-1 : Int32))), h)) (dp (hp_p h l0 29) fun r3 => (dg (aib 64 h r3 l1) (dp (hp_p h l0 10) fun r6 => (di (F_90 f r6 (12 : Int32) h) fun v11 h8 => (db (ev_c .ne (hp_z h r3 (Int32.toNatClampNeg l1)) v11) (B_103_61 f (B_103_2 f g) l0 l1 h8) (dg (decide (hp_k h8 l0 = some (8, 0))) (dp (hp_p h8 l0 30) fun r14 => (dg (aib 64 h8 r14 l1) (dp (hp_p h8 l0 10) fun r17 => (di (F_90 f r17 (16 : Int32) h8) fun v22 h19 => (db (ev_c .ne (hp_z h8 r14 (Int32.toNatClampNeg l1)) v22) (B_103_61 f (B_103_2 f g) l0 l1 h19) (dg (decide (hp_k h19 l0 = some (8, 0))) (dp (hp_p h19 l0 31) fun r25 => (dg (aib 64 h19 r25 l1) (di (F_102 f l0 h19) fun v31 h28 => (db (ev_c .ne (hp_z h19 r25 (Int32.toNatClampNeg l1)) v31) (B_103_61 f (B_103_2 f g) l0 l1 h28) (some (.inl (some (.int l1)), h28))))))))))))))))))))
set_option maxRecDepth 20000 in
theorem sB_103_2 (f : Nat) : ∀ (g : Nat) (l0 : Nat) (l1 : Int32) (h : hp_T) (o : ev_O), B_103_2 f g l0 l1 h = some o → rg 103 2 [.ref l0, .int l1] [] h o := by
  intro g
  induction g with
  | zero =>
    intro l0 l1  h o hB
    rw [B_103_2] at hB
    cases hB
  | succ g ih =>
    intro l0 l1  h o hB
    rw [B_103_2] at hB
    refine rg_p rfl rfl ?_
    refine rg_p rfl rfl ?_
    obtain ⟨c1, hB⟩ := dg_e hB
    refine rg_gz rfl rfl rfl (of_decide_eq_true c1) ?_
    rcases db_e hB with ⟨q2, hB⟩ | ⟨q2, hB⟩
    · refine rg_bt (t := 67) (pc' := 10) rfl rfl q2 ?_
      refine rg_ic (v := (-1 : Int32)) rfl (by decide) ?_
      cases hB
      exact rg_ri rfl rfl rfl
    · refine rg_bf (t := 67) (pc' := 10) rfl rfl q2 ?_
      refine rg_p rfl rfl ?_
      obtain ⟨r3, p4, hB⟩ := dp_e hB
      refine rg_gp rfl rfl rfl (of_decide_eq_true c1) p4 ?_
      refine rg_p rfl rfl ?_
      obtain ⟨c5, hB⟩ := dg_e hB
      refine rg_ia rfl (ai_of c5) ?_
      refine rg_p rfl rfl ?_
      show rg 103 17 _ _ _ _
      obtain ⟨r6, p7, hB⟩ := dp_e hB
      refine rg_gp rfl rfl rfl (of_decide_eq_true c1) p7 ?_
      refine rg_bi (v := (12 : Int32)) rfl (by decide) ?_
      rcases di_e hB with ⟨v11, h8, z9, hB⟩ | ⟨q10, h8, z9, hB⟩
      · refine rg_call (rg_s9 (n := 2) (as := [.ref r6, .int (12 : Int32)]) (ar := []) rfl (rg_s0 rfl) rfl rfl (Nat.le_of_ble_eq_true rfl) rfl rfl (Nat.le_of_ble_eq_true rfl)) (sF_90 z9) ?_
        rcases db_e hB with ⟨q12, hB⟩ | ⟨q12, hB⟩
        · refine rg_bt (t := 61) (pc' := 28) rfl rfl q12 ?_
          exact sB_103_61 f (B_103_2 f g) ih _ _ h8 _ hB
        · refine rg_bf (t := 61) (pc' := 28) rfl rfl q12 ?_
          refine rg_p rfl rfl ?_
          obtain ⟨c13, hB⟩ := dg_e hB
          obtain ⟨r14, p15, hB⟩ := dp_e hB
          refine rg_gp rfl rfl rfl (of_decide_eq_true c13) p15 ?_
          refine rg_p rfl rfl ?_
          obtain ⟨c16, hB⟩ := dg_e hB
          refine rg_ia rfl (ai_of c16) ?_
          refine rg_p rfl rfl ?_
          show rg 103 35 _ _ _ _
          obtain ⟨r17, p18, hB⟩ := dp_e hB
          refine rg_gp rfl rfl rfl (of_decide_eq_true c13) p18 ?_
          refine rg_bi (v := (16 : Int32)) rfl (by decide) ?_
          rcases di_e hB with ⟨v22, h19, z20, hB⟩ | ⟨q21, h19, z20, hB⟩
          · refine rg_call (rg_s9 (n := 2) (as := [.ref r17, .int (16 : Int32)]) (ar := []) rfl (rg_s0 rfl) rfl rfl (Nat.le_of_ble_eq_true rfl) rfl rfl (Nat.le_of_ble_eq_true rfl)) (sF_90 z20) ?_
            rcases db_e hB with ⟨q23, hB⟩ | ⟨q23, hB⟩
            · refine rg_bt (t := 61) (pc' := 46) rfl rfl q23 ?_
              exact sB_103_61 f (B_103_2 f g) ih _ _ h19 _ hB
            · refine rg_bf (t := 61) (pc' := 46) rfl rfl q23 ?_
              refine rg_p rfl rfl ?_
              obtain ⟨c24, hB⟩ := dg_e hB
              obtain ⟨r25, p26, hB⟩ := dp_e hB
              refine rg_gp rfl rfl rfl (of_decide_eq_true c24) p26 ?_
              refine rg_p rfl rfl ?_
              obtain ⟨c27, hB⟩ := dg_e hB
              refine rg_ia rfl (ai_of c27) ?_
              refine rg_p rfl rfl ?_
              show rg 103 53 _ _ _ _
              rcases di_e hB with ⟨v31, h28, z29, hB⟩ | ⟨q30, h28, z29, hB⟩
              · refine rg_call (rg_v9 (n := 0) (b := l0) (as := [.ref l0]) (ar := []) rfl rfl rfl (Nat.le_of_ble_eq_true rfl) rfl rfl (Nat.le_of_ble_eq_true rfl) (of_decide_eq_true c24)) (sF_102 z29) ?_
                rcases db_e hB with ⟨q32, hB⟩ | ⟨q32, hB⟩
                · refine rg_bt (t := 61) (pc' := 59) rfl rfl q32 ?_
                  exact sB_103_61 f (B_103_2 f g) ih _ _ h28 _ hB
                · refine rg_bf (t := 61) (pc' := 59) rfl rfl q32 ?_
                  refine rg_p rfl rfl ?_
                  cases hB
                  exact rg_ri rfl rfl rfl
              · subst hB
                exact rg_callX (rg_v9 (n := 0) (b := l0) (as := [.ref l0]) (ar := []) rfl rfl rfl (Nat.le_of_ble_eq_true rfl) rfl rfl (Nat.le_of_ble_eq_true rfl) (of_decide_eq_true c24)) (sF_102 z29)
          · subst hB
            exact rg_callX (rg_s9 (n := 2) (as := [.ref r17, .int (16 : Int32)]) (ar := []) rfl (rg_s0 rfl) rfl rfl (Nat.le_of_ble_eq_true rfl) rfl rfl (Nat.le_of_ble_eq_true rfl)) (sF_90 z20)
      · subst hB
        exact rg_callX (rg_s9 (n := 2) (as := [.ref r6, .int (12 : Int32)]) (ar := []) rfl (rg_s0 rfl) rfl rfl (Nat.le_of_ble_eq_true rfl) rfl rfl (Nat.le_of_ble_eq_true rfl)) (sF_90 z9)
def F_103 (f : Nat) (a0 : Nat) (h : hp_T) : Option ev_O := (B_103_2 f  f a0 (0 : Int32) h)
set_option maxRecDepth 20000 in
theorem sF_103 {f : Nat} {a0 : Nat} {h : hp_T} {o : ev_O} (hB : F_103 f a0 h = some o) : rm 103 [.ref a0] h o := by
  unfold F_103 at hB
  refine rm_in (L := [.ref a0, .null]) (Nat.le_of_ble_eq_true rfl) rfl ?_
  refine rg_ic (v := (0 : Int32)) rfl (by decide) ?_
  refine rg_p (L' := [.ref a0, .int (0 : Int32)]) rfl rfl ?_
  exact sB_103_2 f  f _ _ h _ hB
-- 104: RouteHouseModel.isWrong(IIIZ)Z
def B_104_101 (f : Nat) (s0 : Int32) (h : hp_T) : Option ev_O := (dg (dzb s0) (some (.inl (some (.int s0)), h)))
set_option maxRecDepth 20000 in
theorem sB_104_101 (f : Nat) (s0 : Int32) (w0 : Value) (w1 : Value) (w2 : Value) (w3 : Value) (w4 : Value) (w5 : Value) (h : hp_T) (o : ev_O) (hB : B_104_101 f s0 h = some o) : rg 104 101 [w0, w1, w2, w3, w4, w5] [.int s0] h o := by
  unfold B_104_101 at hB
  obtain ⟨c1, hB⟩ := dg_e hB
  cases hB
  exact rg_ri rfl rfl (dz_n (dz_of c1))
def B_104_100 (f : Nat) (h : hp_T) : Option ev_O := (B_104_101 f  (0 : Int32) h)
set_option maxRecDepth 20000 in
theorem sB_104_100 (f : Nat) (w0 : Value) (w1 : Value) (w2 : Value) (w3 : Value) (w4 : Value) (w5 : Value) (h : hp_T) (o : ev_O) (hB : B_104_100 f  h = some o) : rg 104 100 [w0, w1, w2, w3, w4, w5] [] h o := by
  unfold B_104_100 at hB
  refine rg_ic (v := (0 : Int32)) rfl (by decide) ?_
  exact sB_104_101 f  _ _ _ _ _ _ _ h _ hB
def B_104_79 (f : Nat) (s0 : Int32) (h : hp_T) : Option ev_O := (dg (dzb s0) (some (.inl (some (.int s0)), h)))
set_option maxRecDepth 20000 in
theorem sB_104_79 (f : Nat) (s0 : Int32) (w0 : Value) (w1 : Value) (w2 : Value) (w3 : Value) (w4 : Value) (w5 : Value) (h : hp_T) (o : ev_O) (hB : B_104_79 f s0 h = some o) : rg 104 79 [w0, w1, w2, w3, w4, w5] [.int s0] h o := by
  unfold B_104_79 at hB
  obtain ⟨c1, hB⟩ := dg_e hB
  cases hB
  exact rg_ri rfl rfl (dz_n (dz_of c1))
def B_104_78 (f : Nat) (h : hp_T) : Option ev_O := (B_104_79 f  (0 : Int32) h)
set_option maxRecDepth 20000 in
theorem sB_104_78 (f : Nat) (w0 : Value) (w1 : Value) (w2 : Value) (w3 : Value) (w4 : Value) (w5 : Value) (h : hp_T) (o : ev_O) (hB : B_104_78 f  h = some o) : rg 104 78 [w0, w1, w2, w3, w4, w5] [] h o := by
  unfold B_104_78 at hB
  refine rg_ic (v := (0 : Int32)) rfl (by decide) ?_
  exact sB_104_79 f  _ _ _ _ _ _ _ h _ hB
def B_104_74 (f : Nat) (h : hp_T) : Option ev_O := (B_104_79 f  (1 : Int32) h)
set_option maxRecDepth 20000 in
theorem sB_104_74 (f : Nat) (w0 : Value) (w1 : Value) (w2 : Value) (w3 : Value) (w4 : Value) (w5 : Value) (h : hp_T) (o : ev_O) (hB : B_104_74 f  h = some o) : rg 104 74 [w0, w1, w2, w3, w4, w5] [] h o := by
  unfold B_104_74 at hB
  refine rg_ic (v := (1 : Int32)) rfl (by decide) ?_
  refine rg_p (pc' := 79) rfl rfl ?_
  exact sB_104_79 f  _ _ _ _ _ _ _ h _ hB
def B_104_29 (f : Nat) (h : hp_T) : Option ev_O := (some (.inl (some (.int (1 : Int32))), h))
set_option maxRecDepth 20000 in
theorem sB_104_29 (f : Nat) (w0 : Value) (w1 : Value) (w2 : Value) (w3 : Value) (w4 : Value) (w5 : Value) (h : hp_T) (o : ev_O) (hB : B_104_29 f  h = some o) : rg 104 29 [w0, w1, w2, w3, w4, w5] [] h o := by
  unfold B_104_29 at hB
  refine rg_ic (v := (1 : Int32)) rfl (by decide) ?_
  cases hB
  exact rg_ri rfl rfl (dz_n dz_1)
def B_104_21 (f : Nat) (l0 : Nat) (l1 : Int32) (l4 : Int32) (l5 : Int32) (h : hp_T) : Option ev_O := (db (ev_c .le l5 (4000 : Int32)) (db (ev_c .ne l1 (-1 : Int32)) (dg (decide (hp_k h l0 = some (8, 0))) (dp (hp_p h l0 33) fun r4 => (dg (aib 64 h r4 l1) (db (ev_c .lt (hp_z h r4 (Int32.toNatClampNeg l1)) 0) (db (ev_c .ne l4 0) (B_104_100 f   h) (dp (hp_p h l0 34) fun r9 => (dg (aib 64 h r9 l1) (db (ev_c .ge l5 (hp_z h r9 (Int32.toNatClampNeg l1))) (B_104_100 f   h) (B_104_101 f  (1 : Int32) h))))) (db (ev_c .gt l5 (hp_z h r4 (Int32.toNatClampNeg l1))) (B_104_74 f   h) (db (ev_c .ne l4 0) (B_104_78 f   h) (db (ev_c .eq l5 (hp_z h r4 (Int32.toNatClampNeg l1))) (B_104_78 f   h) (B_104_74 f   h)))))))) (some (.inl (some (.int (0 : Int32))), h))) (B_104_29 f   h))
set_option maxRecDepth 20000 in
theorem sB_104_21 (f : Nat) (l0 : Nat) (l1 : Int32) (l4 : Int32) (l5 : Int32) (w2 : Value) (w3 : Value) (h : hp_T) (o : ev_O) (hB : B_104_21 f l0 l1 l4 l5 h = some o) : rg 104 21 [.ref l0, .int l1, w2, w3, .int l4, .int l5] [] h o := by
  unfold B_104_21 at hB
  refine rg_p rfl rfl ?_
  refine rg_si (v := (4000 : Int32)) rfl (by decide) ?_
  rcases db_e hB with ⟨q1, hB⟩ | ⟨q1, hB⟩
  · refine rg_bt (t := 31) (pc' := 29) rfl rfl q1 ?_
    refine rg_p rfl rfl ?_
    refine rg_ic (v := (-1 : Int32)) rfl (by decide) ?_
    rcases db_e hB with ⟨q2, hB⟩ | ⟨q2, hB⟩
    · refine rg_bt (t := 38) (pc' := 36) rfl rfl q2 ?_
      refine rg_p rfl rfl ?_
      obtain ⟨c3, hB⟩ := dg_e hB
      obtain ⟨r4, p5, hB⟩ := dp_e hB
      refine rg_gp rfl rfl rfl (of_decide_eq_true c3) p5 ?_
      refine rg_p rfl rfl ?_
      obtain ⟨c6, hB⟩ := dg_e hB
      refine rg_ia rfl (ai_of c6) ?_
      rcases db_e hB with ⟨q7, hB⟩ | ⟨q7, hB⟩
      · refine rg_bt (t := 80) (pc' := 47) rfl rfl q7 ?_
        refine rg_p rfl rfl ?_
        rcases db_e hB with ⟨q8, hB⟩ | ⟨q8, hB⟩
        · refine rg_bt (t := 100) (pc' := 85) rfl rfl q8 ?_
          exact sB_104_100 f  _ _ _ _ _ _ h _ hB
        · refine rg_bf (t := 100) (pc' := 85) rfl rfl q8 ?_
          refine rg_p rfl rfl ?_
          refine rg_p rfl rfl ?_
          obtain ⟨r9, p10, hB⟩ := dp_e hB
          refine rg_gp rfl rfl rfl (of_decide_eq_true c3) p10 ?_
          refine rg_p rfl rfl ?_
          obtain ⟨c11, hB⟩ := dg_e hB
          refine rg_ia rfl (ai_of c11) ?_
          show rg 104 93 _ _ _ _
          rcases db_e hB with ⟨q12, hB⟩ | ⟨q12, hB⟩
          · refine rg_bt (t := 100) (pc' := 96) rfl rfl q12 ?_
            exact sB_104_100 f  _ _ _ _ _ _ h _ hB
          · refine rg_bf (t := 100) (pc' := 96) rfl rfl q12 ?_
            refine rg_ic (v := (1 : Int32)) rfl (by decide) ?_
            refine rg_p (pc' := 101) rfl rfl ?_
            exact sB_104_101 f  _ _ _ _ _ _ _ h _ hB
      · refine rg_bf (t := 80) (pc' := 47) rfl rfl q7 ?_
        refine rg_p rfl rfl ?_
        refine rg_p rfl rfl ?_
        refine rg_gp rfl rfl rfl (of_decide_eq_true c3) p5 ?_
        refine rg_p rfl rfl ?_
        refine rg_ia rfl (ai_of c6) ?_
        show rg 104 55 _ _ _ _
        rcases db_e hB with ⟨q13, hB⟩ | ⟨q13, hB⟩
        · refine rg_bt (t := 74) (pc' := 58) rfl rfl q13 ?_
          exact sB_104_74 f  _ _ _ _ _ _ h _ hB
        · refine rg_bf (t := 74) (pc' := 58) rfl rfl q13 ?_
          refine rg_p rfl rfl ?_
          rcases db_e hB with ⟨q14, hB⟩ | ⟨q14, hB⟩
          · refine rg_bt (t := 78) (pc' := 63) rfl rfl q14 ?_
            exact sB_104_78 f  _ _ _ _ _ _ h _ hB
          · refine rg_bf (t := 78) (pc' := 63) rfl rfl q14 ?_
            refine rg_p rfl rfl ?_
            refine rg_p rfl rfl ?_
            refine rg_gp rfl rfl rfl (of_decide_eq_true c3) p5 ?_
            refine rg_p rfl rfl ?_
            refine rg_ia rfl (ai_of c6) ?_
            show rg 104 71 _ _ _ _
            rcases db_e hB with ⟨q15, hB⟩ | ⟨q15, hB⟩
            · refine rg_bt (t := 78) (pc' := 74) rfl rfl q15 ?_
              exact sB_104_78 f  _ _ _ _ _ _ h _ hB
            · refine rg_bf (t := 78) (pc' := 74) rfl rfl q15 ?_
              exact sB_104_74 f  _ _ _ _ _ _ h _ hB
    · refine rg_bf (t := 38) (pc' := 36) rfl rfl q2 ?_
      refine rg_ic (v := (0 : Int32)) rfl (by decide) ?_
      cases hB
      exact rg_ri rfl rfl (dz_n dz_0)
  · refine rg_bf (t := 31) (pc' := 29) rfl rfl q1 ?_
    exact sB_104_29 f  _ _ _ _ _ _ h _ hB
def F_104 (f : Nat) (a0 : Nat) (a1 : Int32) (a2 : Int32) (a3 : Int32) (a4 : Int32) (h : hp_T) : Option ev_O := (db (ev_c .eq a3 0) (B_104_29 f   h) (db (ev_c .eq a4 0) (B_104_21 f  a0 a1 a4 (a2 + a3) h) (db (ev_c .gt (a3 - a3 / (8 : Int32) * (8 : Int32)) 0) (B_104_29 f   h) (B_104_21 f  a0 a1 a4 (a2 + a3) h))))
set_option maxRecDepth 20000 in
theorem sF_104 {f : Nat} {a0 : Nat} {a1 : Int32} {a2 : Int32} {a3 : Int32} {a4 : Int32} {h : hp_T} {o : ev_O} (hB : F_104 f a0 a1 a2 a3 a4 h = some o) : rm 104 [.ref a0, .int a1, .int a2, .int a3, .int a4] h o := by
  unfold F_104 at hB
  refine rm_in (L := [.ref a0, .int a1, .int a2, .int a3, .int a4, .null]) (Nat.le_of_ble_eq_true rfl) rfl ?_
  refine rg_p rfl rfl ?_
  refine rg_p rfl rfl ?_
  refine rg_p rfl rfl ?_
  refine rg_p (L' := [.ref a0, .int a1, .int a2, .int a3, .int a4, .int (a2 + a3)]) rfl rfl ?_
  refine rg_p rfl rfl ?_
  show rg 104 6 _ _ _ _
  rcases db_e hB with ⟨q1, hB⟩ | ⟨q1, hB⟩
  · refine rg_bt (t := 29) (pc' := 9) rfl rfl q1 ?_
    exact sB_104_29 f  _ _ _ _ _ _ h _ hB
  · refine rg_bf (t := 29) (pc' := 9) rfl rfl q1 ?_
    refine rg_p rfl rfl ?_
    rcases db_e hB with ⟨q2, hB⟩ | ⟨q2, hB⟩
    · refine rg_bt (t := 21) (pc' := 14) rfl rfl q2 ?_
      exact sB_104_21 f  _ _ _ _ _ _ h _ hB
    · refine rg_bf (t := 21) (pc' := 14) rfl rfl q2 ?_
      refine rg_p rfl rfl ?_
      refine rg_bi (v := (8 : Int32)) rfl (by decide) ?_
      refine rg_rm rfl (by decide) ?_
      rcases db_e hB with ⟨q3, hB⟩ | ⟨q3, hB⟩
      · refine rg_bt (t := 29) (pc' := 21) rfl rfl q3 ?_
        exact sB_104_29 f  _ _ _ _ _ _ h _ hB
      · refine rg_bf (t := 29) (pc' := 21) rfl rfl q3 ?_
        exact sB_104_21 f  _ _ _ _ _ _ h _ hB
-- 105: RouteHouseModel.joins(I)Z
def B_105_564 (f : Nat) : Nat → Nat → Int32 → Int32 → Int32 → hp_T → Option ev_O
  | 0, _, _, _, _, _ => none
  | g + 1, l0, l6, l7, l8, h => (dg (decide (hp_k h l0 = some (8, 0))) (dp (hp_p h l0 33) fun r2 => (dg (aib 64 h r2 l6) (db (ev_c .ge l8 (hp_z h r2 (Int32.toNatClampNeg l6))) (dl (wz h l0 12 (l7 + (hp_z h r2 (Int32.toNatClampNeg l6)))) fun h6 => (dg (decide (hp_k h6 l0 = some (8, 0))) (dp (hp_p h6 l0 10) fun r9 => (dg (aib 64 h6 r9 (6 : Int32)) (dl (wz h6 r9 (Int32.toNatClampNeg (6 : Int32)) ((hp_z h6 r9 (Int32.toNatClampNeg (6 : Int32))) &&& (-33 : Int32))) fun h12 => (dg (decide (hp_k h12 l0 = some (8, 0))) (dp (hp_p h12 l0 10) fun r15 => (dv (F_88 f r15 (2 : Int32) (hp_z h12 l0 12) h12) fun h17 => (dg (decide (hp_k h17 l0 = some (8, 0))) (dp (hp_p h17 l0 10) fun r21 => (di (F_87 f r21 (0 : Int32) l7 (10 : Int32) h17) fun v26 h23 => (dv (F_88 f r21 (10 : Int32) v26 h23) fun h27 => (dg (decide (hp_k h27 l0 = some (8, 0))) (dv (F_101 f l0 l6 h27) fun h31 => (some (.inl (some (.int (1 : Int32))), h31)))))))))))))))) (dp (hp_p h l0 10) fun r34 => (dp (hp_p h l0 40) fun r36 => (dg (aib 64 h r36 (((4000 : Int32) * l6) + l8)) (dg (aib 64 h r34 (l7 + l8)) (dl (wz h r34 (Int32.toNatClampNeg (l7 + l8)) (hp_z h r36 (Int32.toNatClampNeg (((4000 : Int32) * l6) + l8)))) fun h40 => ((B_105_564 f g) l0 l6 l7 (l8 + (1 : Int32)) h40))))))))))
set_option maxRecDepth 20000 in
theorem sB_105_564 (f : Nat) : ∀ (g : Nat) (l0 : Nat) (l6 : Int32) (l7 : Int32) (l8 : Int32) (w1 : Value) (w2 : Value) (w3 : Value) (w4 : Value) (w5 : Value) (h : hp_T) (o : ev_O), B_105_564 f g l0 l6 l7 l8 h = some o → rg 105 564 [.ref l0, w1, w2, w3, w4, w5, .int l6, .int l7, .int l8] [] h o := by
  intro g
  induction g with
  | zero =>
    intro l0 l6 l7 l8 w1 w2 w3 w4 w5 h o hB
    rw [B_105_564] at hB
    cases hB
  | succ g ih =>
    intro l0 l6 l7 l8 w1 w2 w3 w4 w5 h o hB
    rw [B_105_564] at hB
    refine rg_p rfl rfl ?_
    refine rg_p rfl rfl ?_
    obtain ⟨c1, hB⟩ := dg_e hB
    obtain ⟨r2, p3, hB⟩ := dp_e hB
    refine rg_gp rfl rfl rfl (of_decide_eq_true c1) p3 ?_
    refine rg_p rfl rfl ?_
    obtain ⟨c4, hB⟩ := dg_e hB
    refine rg_ia rfl (ai_of c4) ?_
    show rg 105 573 _ _ _ _
    rcases db_e hB with ⟨q5, hB⟩ | ⟨q5, hB⟩
    · refine rg_bt (t := 606) (pc' := 576) rfl rfl q5 ?_
      refine rg_p rfl rfl ?_
      refine rg_p rfl rfl ?_
      refine rg_p rfl rfl ?_
      refine rg_gp rfl rfl rfl (of_decide_eq_true c1) p3 ?_
      refine rg_p rfl rfl ?_
      show rg 105 615 _ _ _ _
      refine rg_ia rfl (ai_of c4) ?_
      refine rg_p rfl rfl ?_
      obtain ⟨h6, e7, hB⟩ := dl_e hB
      refine rg_pi rfl rfl rfl (of_decide_eq_true c1) e7 ?_
      refine rg_p rfl rfl ?_
      obtain ⟨c8, hB⟩ := dg_e hB
      obtain ⟨r9, p10, hB⟩ := dp_e hB
      refine rg_gp rfl rfl rfl (of_decide_eq_true c8) p10 ?_
      refine rg_bi (v := (6 : Int32)) rfl (by decide) ?_
      show rg 105 626 _ _ _ _
      refine rg_p rfl rfl ?_
      refine rg_gp rfl rfl rfl (of_decide_eq_true c8) p10 ?_
      refine rg_bi (v := (6 : Int32)) rfl (by decide) ?_
      obtain ⟨c11, hB⟩ := dg_e hB
      refine rg_ia rfl (ai_of c11) ?_
      refine rg_bi (v := (-33 : Int32)) rfl (by decide) ?_
      refine rg_p rfl rfl ?_
      show rg 105 636 _ _ _ _
      obtain ⟨h12, e13, hB⟩ := dl_e hB
      refine rg_is rfl (ai_of c11) e13 ?_
      refine rg_p rfl rfl ?_
      obtain ⟨c14, hB⟩ := dg_e hB
      obtain ⟨r15, p16, hB⟩ := dp_e hB
      refine rg_gp rfl rfl rfl (of_decide_eq_true c14) p16 ?_
      refine rg_ic (v := (2 : Int32)) rfl (by decide) ?_
      refine rg_p rfl rfl ?_
      refine rg_gz rfl rfl rfl (of_decide_eq_true c14) ?_
      show rg 105 646 _ _ _ _
      rcases dv_e hB with ⟨h17, z18, hB⟩ | ⟨q19, h17, z18, hB⟩
      · refine rg_call (rg_s9 (n := 3) (as := [.ref r15, .int (2 : Int32), .int (hp_z h12 l0 12)]) (ar := []) rfl (rg_s0 rfl) rfl rfl (Nat.le_of_ble_eq_true rfl) rfl rfl (Nat.le_of_ble_eq_true rfl)) (sF_88 z18) ?_
        refine rg_p rfl rfl ?_
        obtain ⟨c20, hB⟩ := dg_e hB
        obtain ⟨r21, p22, hB⟩ := dp_e hB
        refine rg_gp rfl rfl rfl (of_decide_eq_true c20) p22 ?_
        refine rg_bi (v := (10 : Int32)) rfl (by decide) ?_
        refine rg_p rfl rfl ?_
        refine rg_gp rfl rfl rfl (of_decide_eq_true c20) p22 ?_
        show rg 105 659 _ _ _ _
        refine rg_ic (v := (0 : Int32)) rfl (by decide) ?_
        refine rg_p rfl rfl ?_
        refine rg_bi (v := (10 : Int32)) rfl (by decide) ?_
        rcases di_e hB with ⟨v26, h23, z24, hB⟩ | ⟨q25, h23, z24, hB⟩
        · refine rg_call (rg_s9 (n := 4) (as := [.ref r21, .int (0 : Int32), .int l7, .int (10 : Int32)]) (ar := []) rfl (rg_s0 rfl) rfl rfl (Nat.le_of_ble_eq_true rfl) rfl rfl (Nat.le_of_ble_eq_true rfl)) (sF_87 z24) ?_
          rcases dv_e hB with ⟨h27, z28, hB⟩ | ⟨q29, h27, z28, hB⟩
          · refine rg_call (rg_s9 (n := 3) (as := [.ref r21, .int (10 : Int32), .int v26]) (ar := []) rfl (rg_s0 rfl) rfl rfl (Nat.le_of_ble_eq_true rfl) rfl rfl (Nat.le_of_ble_eq_true rfl)) (sF_88 z28) ?_
            refine rg_p rfl rfl ?_
            refine rg_p rfl rfl ?_
            obtain ⟨c30, hB⟩ := dg_e hB
            rcases dv_e hB with ⟨h31, z32, hB⟩ | ⟨q33, h31, z32, hB⟩
            · refine rg_call (rg_v9 (n := 1) (b := l0) (as := [.ref l0, .int l6]) (ar := []) rfl rfl rfl (Nat.le_of_ble_eq_true rfl) rfl rfl (Nat.le_of_ble_eq_true rfl) (of_decide_eq_true c30)) (sF_101 z32) ?_
              refine rg_ic (v := (1 : Int32)) rfl (by decide) ?_
              cases hB
              exact rg_ri rfl rfl (dz_n dz_1)
            · subst hB
              exact rg_callX (rg_v9 (n := 1) (b := l0) (as := [.ref l0, .int l6]) (ar := []) rfl rfl rfl (Nat.le_of_ble_eq_true rfl) rfl rfl (Nat.le_of_ble_eq_true rfl) (of_decide_eq_true c30)) (sF_101 z32)
          · subst hB
            exact rg_callX (rg_s9 (n := 3) (as := [.ref r21, .int (10 : Int32), .int v26]) (ar := []) rfl (rg_s0 rfl) rfl rfl (Nat.le_of_ble_eq_true rfl) rfl rfl (Nat.le_of_ble_eq_true rfl)) (sF_88 z28)
        · subst hB
          exact rg_callX (rg_s9 (n := 4) (as := [.ref r21, .int (0 : Int32), .int l7, .int (10 : Int32)]) (ar := []) rfl (rg_s0 rfl) rfl rfl (Nat.le_of_ble_eq_true rfl) rfl rfl (Nat.le_of_ble_eq_true rfl)) (sF_87 z24)
      · subst hB
        exact rg_callX (rg_s9 (n := 3) (as := [.ref r15, .int (2 : Int32), .int (hp_z h12 l0 12)]) (ar := []) rfl (rg_s0 rfl) rfl rfl (Nat.le_of_ble_eq_true rfl) rfl rfl (Nat.le_of_ble_eq_true rfl)) (sF_88 z18)
    · refine rg_bf (t := 606) (pc' := 576) rfl rfl q5 ?_
      refine rg_p rfl rfl ?_
      obtain ⟨r34, p35, hB⟩ := dp_e hB
      refine rg_gp rfl rfl rfl (of_decide_eq_true c1) p35 ?_
      refine rg_p rfl rfl ?_
      refine rg_p rfl rfl ?_
      refine rg_p rfl rfl ?_
      show rg 105 585 _ _ _ _
      refine rg_p rfl rfl ?_
      obtain ⟨r36, p37, hB⟩ := dp_e hB
      refine rg_gp rfl rfl rfl (of_decide_eq_true c1) p37 ?_
      refine rg_si (v := (4000 : Int32)) rfl (by decide) ?_
      refine rg_p rfl rfl ?_
      refine rg_p rfl rfl ?_
      refine rg_p rfl rfl ?_
      show rg 105 597 _ _ _ _
      refine rg_p rfl rfl ?_
      obtain ⟨c38, hB⟩ := dg_e hB
      refine rg_ia rfl (ai_of c38) ?_
      obtain ⟨c39, hB⟩ := dg_e hB
      obtain ⟨h40, e41, hB⟩ := dl_e hB
      refine rg_is rfl (ai_of c39) e41 ?_
      refine rg_p (L' := [.ref l0, w1, w2, w3, w4, w5, .int l6, .int l7, .int (l8 + (1 : Int32))]) rfl rfl ?_
      refine rg_p (pc' := 564) rfl rfl ?_
      exact ih _ _ _ _ _ _ _ _ _ h40 _ hB
def B_105_528 (f : Nat) : Nat → Nat → Int32 → Int32 → Int32 → hp_T → Option ev_O
  | 0, _, _, _, _, _ => none
  | g + 1, l0, l6, l7, l8, h => (db (ev_c .ge l8 l7) (B_105_564 f  f l0 l6 l7 (0 : Int32) h) (dg (decide (hp_k h l0 = some (8, 0))) (dp (hp_p h l0 10) fun r3 => (dp (hp_p h l0 36) fun r5 => (dg (aib 64 h r5 (((60 : Int32) * l6) + l8)) (dg (aib 64 h r3 l8) (dl (wz h r3 (Int32.toNatClampNeg l8) (hp_z h r5 (Int32.toNatClampNeg (((60 : Int32) * l6) + l8)))) fun h9 => ((B_105_528 f g) l0 l6 l7 (l8 + (1 : Int32)) h9))))))))
set_option maxRecDepth 20000 in
theorem sB_105_528 (f : Nat) : ∀ (g : Nat) (l0 : Nat) (l6 : Int32) (l7 : Int32) (l8 : Int32) (w1 : Value) (w2 : Value) (w3 : Value) (w4 : Value) (w5 : Value) (h : hp_T) (o : ev_O), B_105_528 f g l0 l6 l7 l8 h = some o → rg 105 528 [.ref l0, w1, w2, w3, w4, w5, .int l6, .int l7, .int l8] [] h o := by
  intro g
  induction g with
  | zero =>
    intro l0 l6 l7 l8 w1 w2 w3 w4 w5 h o hB
    rw [B_105_528] at hB
    cases hB
  | succ g ih =>
    intro l0 l6 l7 l8 w1 w2 w3 w4 w5 h o hB
    rw [B_105_528] at hB
    refine rg_p rfl rfl ?_
    refine rg_p rfl rfl ?_
    rcases db_e hB with ⟨q1, hB⟩ | ⟨q1, hB⟩
    · refine rg_bt (t := 561) (pc' := 535) rfl rfl q1 ?_
      refine rg_ic (v := (0 : Int32)) rfl (by decide) ?_
      refine rg_p (L' := [.ref l0, w1, w2, w3, w4, w5, .int l6, .int l7, .int (0 : Int32)]) rfl rfl ?_
      exact sB_105_564 f  f _ _ _ _ _ _ _ _ _ h _ hB
    · refine rg_bf (t := 561) (pc' := 535) rfl rfl q1 ?_
      refine rg_p rfl rfl ?_
      obtain ⟨c2, hB⟩ := dg_e hB
      obtain ⟨r3, p4, hB⟩ := dp_e hB
      refine rg_gp rfl rfl rfl (of_decide_eq_true c2) p4 ?_
      refine rg_p rfl rfl ?_
      refine rg_p rfl rfl ?_
      obtain ⟨r5, p6, hB⟩ := dp_e hB
      refine rg_gp rfl rfl rfl (of_decide_eq_true c2) p6 ?_
      show rg 105 545 _ _ _ _
      refine rg_bi (v := (60 : Int32)) rfl (by decide) ?_
      refine rg_p rfl rfl ?_
      refine rg_p rfl rfl ?_
      refine rg_p rfl rfl ?_
      refine rg_p rfl rfl ?_
      obtain ⟨c7, hB⟩ := dg_e hB
      refine rg_ia rfl (ai_of c7) ?_
      show rg 105 554 _ _ _ _
      obtain ⟨c8, hB⟩ := dg_e hB
      obtain ⟨h9, e10, hB⟩ := dl_e hB
      refine rg_is rfl (ai_of c8) e10 ?_
      refine rg_p (L' := [.ref l0, w1, w2, w3, w4, w5, .int l6, .int l7, .int (l8 + (1 : Int32))]) rfl rfl ?_
      refine rg_p (pc' := 528) rfl rfl ?_
      exact ih _ _ _ _ _ _ _ _ _ h9 _ hB
def B_105_479 (f : Nat) : Nat → Nat → Int32 → Int32 → hp_T → Option ev_O
  | 0, _, _, _, _ => none
  | g + 1, l0, l6, l7, h => (dg (decide (hp_k h l0 = some (8, 0))) (dp (hp_p h l0 33) fun r2 => (dg (aib 64 h r2 l6) (db (ev_c .ge l7 (hp_z h r2 (Int32.toNatClampNeg l6))) (dp (hp_p h l0 35) fun r6 => (dg (aib 64 h r6 l6) (B_105_528 f  f l0 l6 (hp_z h r6 (Int32.toNatClampNeg l6)) (0 : Int32) h))) (dp (hp_p h l0 41) fun r9 => (dg (aib 66 h r9 (((4000 : Int32) * l6) + l7)) (db (ev_c .ne (hp_z h r9 (Int32.toNatClampNeg (((4000 : Int32) * l6) + l7))) 0) ((B_105_479 f g) l0 l6 (l7 + (1 : Int32)) h) (some (.inl (some (.int (0 : Int32))), h)))))))))
set_option maxRecDepth 20000 in
theorem sB_105_479 (f : Nat) : ∀ (g : Nat) (l0 : Nat) (l6 : Int32) (l7 : Int32) (w1 : Value) (w2 : Value) (w3 : Value) (w4 : Value) (w5 : Value) (w8 : Value) (h : hp_T) (o : ev_O), B_105_479 f g l0 l6 l7 h = some o → rg 105 479 [.ref l0, w1, w2, w3, w4, w5, .int l6, .int l7, w8] [] h o := by
  intro g
  induction g with
  | zero =>
    intro l0 l6 l7 w1 w2 w3 w4 w5 w8 h o hB
    rw [B_105_479] at hB
    cases hB
  | succ g ih =>
    intro l0 l6 l7 w1 w2 w3 w4 w5 w8 h o hB
    rw [B_105_479] at hB
    refine rg_p rfl rfl ?_
    refine rg_p rfl rfl ?_
    obtain ⟨c1, hB⟩ := dg_e hB
    obtain ⟨r2, p3, hB⟩ := dp_e hB
    refine rg_gp rfl rfl rfl (of_decide_eq_true c1) p3 ?_
    refine rg_p rfl rfl ?_
    obtain ⟨c4, hB⟩ := dg_e hB
    refine rg_ia rfl (ai_of c4) ?_
    show rg 105 488 _ _ _ _
    rcases db_e hB with ⟨q5, hB⟩ | ⟨q5, hB⟩
    · refine rg_bt (t := 516) (pc' := 491) rfl rfl q5 ?_
      refine rg_p rfl rfl ?_
      obtain ⟨r6, p7, hB⟩ := dp_e hB
      refine rg_gp rfl rfl rfl (of_decide_eq_true c1) p7 ?_
      refine rg_p rfl rfl ?_
      obtain ⟨c8, hB⟩ := dg_e hB
      refine rg_ia rfl (ai_of c8) ?_
      refine rg_p (L' := [.ref l0, w1, w2, w3, w4, w5, .int l6, .int (hp_z h r6 (Int32.toNatClampNeg l6)), w8]) rfl rfl ?_
      show rg 105 525 _ _ _ _
      refine rg_ic (v := (0 : Int32)) rfl (by decide) ?_
      refine rg_p (L' := [.ref l0, w1, w2, w3, w4, w5, .int l6, .int (hp_z h r6 (Int32.toNatClampNeg l6)), .int (0 : Int32)]) rfl rfl ?_
      exact sB_105_528 f  f _ _ _ _ _ _ _ _ _ h _ hB
    · refine rg_bf (t := 516) (pc' := 491) rfl rfl q5 ?_
      refine rg_p rfl rfl ?_
      obtain ⟨r9, p10, hB⟩ := dp_e hB
      refine rg_gp rfl rfl rfl (of_decide_eq_true c1) p10 ?_
      refine rg_si (v := (4000 : Int32)) rfl (by decide) ?_
      refine rg_p rfl rfl ?_
      refine rg_p rfl rfl ?_
      show rg 105 501 _ _ _ _
      refine rg_p rfl rfl ?_
      refine rg_p rfl rfl ?_
      obtain ⟨c11, hB⟩ := dg_e hB
      refine rg_ba (t := 66) (by decide) rfl (ai_of c11) ?_
      rcases db_e hB with ⟨q12, hB⟩ | ⟨q12, hB⟩
      · refine rg_bt (t := 510) (pc' := 508) rfl rfl q12 ?_
        refine rg_p (L' := [.ref l0, w1, w2, w3, w4, w5, .int l6, .int (l7 + (1 : Int32)), w8]) rfl rfl ?_
        refine rg_p (pc' := 479) rfl rfl ?_
        exact ih _ _ _ _ _ _ _ _ _ h _ hB
      · refine rg_bf (t := 510) (pc' := 508) rfl rfl q12 ?_
        refine rg_ic (v := (0 : Int32)) rfl (by decide) ?_
        cases hB
        exact rg_ri rfl rfl (dz_n dz_0)
def B_105_464 (f : Nat) (l0 : Nat) (l6 : Int32) (h : hp_T) : Option ev_O := (dg (decide (hp_k h l0 = some (8, 0))) (dp (hp_p h l0 33) fun r2 => (dg (aib 64 h r2 l6) (db (ev_c .ge (hp_z h r2 (Int32.toNatClampNeg l6)) 0) (B_105_479 f  f l0 l6 (0 : Int32) h) (some (.inl (some (.int (0 : Int32))), h))))))
set_option maxRecDepth 20000 in
theorem sB_105_464 (f : Nat) (l0 : Nat) (l6 : Int32) (w1 : Value) (w2 : Value) (w3 : Value) (w4 : Value) (w5 : Value) (w7 : Value) (w8 : Value) (h : hp_T) (o : ev_O) (hB : B_105_464 f l0 l6 h = some o) : rg 105 464 [.ref l0, w1, w2, w3, w4, w5, .int l6, w7, w8] [] h o := by
  unfold B_105_464 at hB
  refine rg_p rfl rfl ?_
  obtain ⟨c1, hB⟩ := dg_e hB
  obtain ⟨r2, p3, hB⟩ := dp_e hB
  refine rg_gp rfl rfl rfl (of_decide_eq_true c1) p3 ?_
  refine rg_p rfl rfl ?_
  obtain ⟨c4, hB⟩ := dg_e hB
  refine rg_ia rfl (ai_of c4) ?_
  rcases db_e hB with ⟨q5, hB⟩ | ⟨q5, hB⟩
  · refine rg_bt (t := 476) (pc' := 474) rfl rfl q5 ?_
    refine rg_ic (v := (0 : Int32)) rfl (by decide) ?_
    refine rg_p (L' := [.ref l0, w1, w2, w3, w4, w5, .int l6, .int (0 : Int32), w8]) rfl rfl ?_
    exact sB_105_479 f  f _ _ _ _ _ _ _ _ _ h _ hB
  · refine rg_bf (t := 476) (pc' := 474) rfl rfl q5 ?_
    refine rg_ic (v := (0 : Int32)) rfl (by decide) ?_
    cases hB
    exact rg_ri rfl rfl (dz_n dz_0)
def B_105_447 (f : Nat) (l0 : Nat) (l3 : Int32) (l4 : Int32) (l5 : Int32) (l6 : Int32) (s0 : Int32) (s1 : Int32) (s2 : Nat) (h : hp_T) : Option ev_O := (dg (aib 64 h s2 s1) (dl (wz h s2 (Int32.toNatClampNeg s1) s0) fun h2 => (db (ev_c .ne l4 0) (B_105_464 f  l0 l6 h2) (dg (decide (hp_k h2 l0 = some (8, 0))) (dp (hp_p h2 l0 33) fun r6 => (dg (aib 64 h2 r6 l6) (dl (wz h2 r6 (Int32.toNatClampNeg l6) (l3 + l5)) fun h9 => (B_105_464 f  l0 l6 h9))))))))
set_option maxRecDepth 20000 in
theorem sB_105_447 (f : Nat) (l0 : Nat) (l3 : Int32) (l4 : Int32) (l5 : Int32) (l6 : Int32) (s0 : Int32) (s1 : Int32) (s2 : Nat) (w1 : Value) (w2 : Value) (w7 : Value) (w8 : Value) (h : hp_T) (o : ev_O) (hB : B_105_447 f l0 l3 l4 l5 l6 s0 s1 s2 h = some o) : rg 105 447 [.ref l0, w1, w2, .int l3, .int l4, .int l5, .int l6, w7, w8] [.int s0, .int s1, .ref s2] h o := by
  unfold B_105_447 at hB
  obtain ⟨c1, hB⟩ := dg_e hB
  obtain ⟨h2, e3, hB⟩ := dl_e hB
  refine rg_is rfl (ai_of c1) e3 ?_
  refine rg_p rfl rfl ?_
  rcases db_e hB with ⟨q4, hB⟩ | ⟨q4, hB⟩
  · refine rg_bt (t := 464) (pc' := 453) rfl rfl q4 ?_
    exact sB_105_464 f  _ _ _ _ _ _ _ _ _ h2 _ hB
  · refine rg_bf (t := 464) (pc' := 453) rfl rfl q4 ?_
    refine rg_p rfl rfl ?_
    obtain ⟨c5, hB⟩ := dg_e hB
    obtain ⟨r6, p7, hB⟩ := dp_e hB
    refine rg_gp rfl rfl rfl (of_decide_eq_true c5) p7 ?_
    refine rg_p rfl rfl ?_
    refine rg_p rfl rfl ?_
    refine rg_p rfl rfl ?_
    show rg 105 462 _ _ _ _
    refine rg_p rfl rfl ?_
    obtain ⟨c8, hB⟩ := dg_e hB
    obtain ⟨h9, e10, hB⟩ := dl_e hB
    refine rg_is rfl (ai_of c8) e10 ?_
    exact sB_105_464 f  _ _ _ _ _ _ _ _ _ h9 _ hB
def B_105_413 (f : Nat) (l0 : Nat) (l3 : Int32) (l4 : Int32) (l5 : Int32) (l6 : Int32) (h : hp_T) : Option ev_O := (dg (decide (hp_k h l0 = some (8, 0))) (dp (hp_p h l0 34) fun r2 => (dg (aib 64 h r2 l6) (db (ev_c .le (l3 + l5) (hp_z h r2 (Int32.toNatClampNeg l6))) (B_105_447 f  l0 l3 l4 l5 l6 (hp_z h r2 (Int32.toNatClampNeg l6)) l6 r2 h) (B_105_447 f  l0 l3 l4 l5 l6 (l3 + l5) l6 r2 h)))))
set_option maxRecDepth 20000 in
theorem sB_105_413 (f : Nat) (l0 : Nat) (l3 : Int32) (l4 : Int32) (l5 : Int32) (l6 : Int32) (w1 : Value) (w2 : Value) (w7 : Value) (w8 : Value) (h : hp_T) (o : ev_O) (hB : B_105_413 f l0 l3 l4 l5 l6 h = some o) : rg 105 413 [.ref l0, w1, w2, .int l3, .int l4, .int l5, .int l6, w7, w8] [] h o := by
  unfold B_105_413 at hB
  refine rg_p rfl rfl ?_
  obtain ⟨c1, hB⟩ := dg_e hB
  obtain ⟨r2, p3, hB⟩ := dp_e hB
  refine rg_gp rfl rfl rfl (of_decide_eq_true c1) p3 ?_
  refine rg_p rfl rfl ?_
  refine rg_p rfl rfl ?_
  refine rg_p rfl rfl ?_
  show rg 105 422 _ _ _ _
  refine rg_p rfl rfl ?_
  refine rg_p rfl rfl ?_
  refine rg_gp rfl rfl rfl (of_decide_eq_true c1) p3 ?_
  refine rg_p rfl rfl ?_
  obtain ⟨c4, hB⟩ := dg_e hB
  refine rg_ia rfl (ai_of c4) ?_
  rcases db_e hB with ⟨q5, hB⟩ | ⟨q5, hB⟩
  · refine rg_bt (t := 440) (pc' := 433) rfl rfl q5 ?_
    refine rg_p rfl rfl ?_
    refine rg_gp rfl rfl rfl (of_decide_eq_true c1) p3 ?_
    refine rg_p rfl rfl ?_
    refine rg_ia rfl (ai_of c4) ?_
    exact sB_105_447 f  _ _ _ _ _ _ _ _ _ _ _ _ h _ hB
  · refine rg_bf (t := 440) (pc' := 433) rfl rfl q5 ?_
    refine rg_p rfl rfl ?_
    refine rg_p rfl rfl ?_
    refine rg_p rfl rfl ?_
    refine rg_p (pc' := 447) rfl rfl ?_
    exact sB_105_447 f  _ _ _ _ _ _ _ _ _ _ _ _ h _ hB
def B_105_365 (f : Nat) : Nat → Nat → Int32 → Int32 → Int32 → Int32 → Int32 → Int32 → Int32 → hp_T → Option ev_O
  | 0, _, _, _, _, _, _, _, _, _ => none
  | g + 1, l0, l1, l2, l3, l4, l5, l6, l7, h => (dg (decide (hp_k h l0 = some (8, 0))) (dp (hp_p h l0 38) fun r2 => (dg (aib 64 h r2 l6) (db (ev_c .ge l7 (hp_z h r2 (Int32.toNatClampNeg l6))) (dp (hp_p h l0 39) fun r6 => (dg (aib 64 h r6 l6) (dl (wz h r6 (Int32.toNatClampNeg l6) l1) fun h9 => (B_105_413 f  l0 l3 l4 l5 l6 h9)))) (dp (hp_p h l0 37) fun r11 => (dp (hp_p h l0 10) fun r13 => (dg (aib 64 h r13 (l2 + l7)) (dg (aib 64 h r11 (((8 : Int32) * l6) + l7)) (dl (wz h r11 (Int32.toNatClampNeg (((8 : Int32) * l6) + l7)) (hp_z h r13 (Int32.toNatClampNeg (l2 + l7)))) fun h17 => ((B_105_365 f g) l0 l1 l2 l3 l4 l5 l6 (l7 + (1 : Int32)) h17))))))))))
set_option maxRecDepth 20000 in
theorem sB_105_365 (f : Nat) : ∀ (g : Nat) (l0 : Nat) (l1 : Int32) (l2 : Int32) (l3 : Int32) (l4 : Int32) (l5 : Int32) (l6 : Int32) (l7 : Int32) (w8 : Value) (h : hp_T) (o : ev_O), B_105_365 f g l0 l1 l2 l3 l4 l5 l6 l7 h = some o → rg 105 365 [.ref l0, .int l1, .int l2, .int l3, .int l4, .int l5, .int l6, .int l7, w8] [] h o := by
  intro g
  induction g with
  | zero =>
    intro l0 l1 l2 l3 l4 l5 l6 l7 w8 h o hB
    rw [B_105_365] at hB
    cases hB
  | succ g ih =>
    intro l0 l1 l2 l3 l4 l5 l6 l7 w8 h o hB
    rw [B_105_365] at hB
    refine rg_p rfl rfl ?_
    refine rg_p rfl rfl ?_
    obtain ⟨c1, hB⟩ := dg_e hB
    obtain ⟨r2, p3, hB⟩ := dp_e hB
    refine rg_gp rfl rfl rfl (of_decide_eq_true c1) p3 ?_
    refine rg_p rfl rfl ?_
    obtain ⟨c4, hB⟩ := dg_e hB
    refine rg_ia rfl (ai_of c4) ?_
    show rg 105 374 _ _ _ _
    rcases db_e hB with ⟨q5, hB⟩ | ⟨q5, hB⟩
    · refine rg_bt (t := 405) (pc' := 377) rfl rfl q5 ?_
      refine rg_p rfl rfl ?_
      obtain ⟨r6, p7, hB⟩ := dp_e hB
      refine rg_gp rfl rfl rfl (of_decide_eq_true c1) p7 ?_
      refine rg_p rfl rfl ?_
      refine rg_p rfl rfl ?_
      obtain ⟨c8, hB⟩ := dg_e hB
      obtain ⟨h9, e10, hB⟩ := dl_e hB
      refine rg_is rfl (ai_of c8) e10 ?_
      exact sB_105_413 f  _ _ _ _ _ _ _ _ _ h9 _ hB
    · refine rg_bf (t := 405) (pc' := 377) rfl rfl q5 ?_
      refine rg_p rfl rfl ?_
      obtain ⟨r11, p12, hB⟩ := dp_e hB
      refine rg_gp rfl rfl rfl (of_decide_eq_true c1) p12 ?_
      refine rg_bi (v := (8 : Int32)) rfl (by decide) ?_
      refine rg_p rfl rfl ?_
      refine rg_p rfl rfl ?_
      show rg 105 386 _ _ _ _
      refine rg_p rfl rfl ?_
      refine rg_p rfl rfl ?_
      refine rg_p rfl rfl ?_
      obtain ⟨r13, p14, hB⟩ := dp_e hB
      refine rg_gp rfl rfl rfl (of_decide_eq_true c1) p14 ?_
      refine rg_p rfl rfl ?_
      refine rg_p rfl rfl ?_
      show rg 105 396 _ _ _ _
      refine rg_p rfl rfl ?_
      obtain ⟨c15, hB⟩ := dg_e hB
      refine rg_ia rfl (ai_of c15) ?_
      obtain ⟨c16, hB⟩ := dg_e hB
      obtain ⟨h17, e18, hB⟩ := dl_e hB
      refine rg_is rfl (ai_of c16) e18 ?_
      refine rg_p (L' := [.ref l0, .int l1, .int l2, .int l3, .int l4, .int l5, .int l6, .int (l7 + (1 : Int32)), w8]) rfl rfl ?_
      refine rg_p (pc' := 365) rfl rfl ?_
      exact ih _ _ _ _ _ _ _ _ _ h17 _ hB
def B_105_361 (f : Nat) (l0 : Nat) (l1 : Int32) (l2 : Int32) (l3 : Int32) (l4 : Int32) (l5 : Int32) (l6 : Int32) (s0 : Int32) (s1 : Int32) (s2 : Nat) (h : hp_T) : Option ev_O := (dg (aib 64 h s2 s1) (dl (wz h s2 (Int32.toNatClampNeg s1) s0) fun h2 => (B_105_365 f  f l0 l1 l2 l3 l4 l5 l6 (0 : Int32) h2)))
set_option maxRecDepth 20000 in
theorem sB_105_361 (f : Nat) (l0 : Nat) (l1 : Int32) (l2 : Int32) (l3 : Int32) (l4 : Int32) (l5 : Int32) (l6 : Int32) (s0 : Int32) (s1 : Int32) (s2 : Nat) (w7 : Value) (w8 : Value) (h : hp_T) (o : ev_O) (hB : B_105_361 f l0 l1 l2 l3 l4 l5 l6 s0 s1 s2 h = some o) : rg 105 361 [.ref l0, .int l1, .int l2, .int l3, .int l4, .int l5, .int l6, w7, w8] [.int s0, .int s1, .ref s2] h o := by
  unfold B_105_361 at hB
  obtain ⟨c1, hB⟩ := dg_e hB
  obtain ⟨h2, e3, hB⟩ := dl_e hB
  refine rg_is rfl (ai_of c1) e3 ?_
  refine rg_ic (v := (0 : Int32)) rfl (by decide) ?_
  refine rg_p (L' := [.ref l0, .int l1, .int l2, .int l3, .int l4, .int l5, .int l6, .int (0 : Int32), w8]) rfl rfl ?_
  exact sB_105_365 f  f _ _ _ _ _ _ _ _ _ h2 _ hB
def B_105_309 (f : Nat) : Nat → Nat → Int32 → Int32 → Int32 → Int32 → Int32 → Int32 → Int32 → hp_T → Option ev_O
  | 0, _, _, _, _, _, _, _, _, _ => none
  | g + 1, l0, l1, l2, l3, l4, l5, l6, l7, h => (db (ev_c .ge l7 l2) (dg (decide (hp_k h l0 = some (8, 0))) (dp (hp_p h l0 38) fun r3 => (db (ev_c .ge l5 (8 : Int32)) (B_105_361 f  l0 l1 l2 l3 l4 l5 l6 (8 : Int32) l6 r3 h) (B_105_361 f  l0 l1 l2 l3 l4 l5 l6 l5 l6 r3 h)))) (dg (decide (hp_k h l0 = some (8, 0))) (dp (hp_p h l0 36) fun r7 => (dp (hp_p h l0 10) fun r9 => (dg (aib 64 h r9 l7) (dg (aib 64 h r7 (((60 : Int32) * l6) + l7)) (dl (wz h r7 (Int32.toNatClampNeg (((60 : Int32) * l6) + l7)) (hp_z h r9 (Int32.toNatClampNeg l7))) fun h13 => ((B_105_309 f g) l0 l1 l2 l3 l4 l5 l6 (l7 + (1 : Int32)) h13))))))))
set_option maxRecDepth 20000 in
theorem sB_105_309 (f : Nat) : ∀ (g : Nat) (l0 : Nat) (l1 : Int32) (l2 : Int32) (l3 : Int32) (l4 : Int32) (l5 : Int32) (l6 : Int32) (l7 : Int32) (w8 : Value) (h : hp_T) (o : ev_O), B_105_309 f g l0 l1 l2 l3 l4 l5 l6 l7 h = some o → rg 105 309 [.ref l0, .int l1, .int l2, .int l3, .int l4, .int l5, .int l6, .int l7, w8] [] h o := by
  intro g
  induction g with
  | zero =>
    intro l0 l1 l2 l3 l4 l5 l6 l7 w8 h o hB
    rw [B_105_309] at hB
    cases hB
  | succ g ih =>
    intro l0 l1 l2 l3 l4 l5 l6 l7 w8 h o hB
    rw [B_105_309] at hB
    refine rg_p rfl rfl ?_
    refine rg_p rfl rfl ?_
    rcases db_e hB with ⟨q1, hB⟩ | ⟨q1, hB⟩
    · refine rg_bt (t := 341) (pc' := 315) rfl rfl q1 ?_
      refine rg_p rfl rfl ?_
      obtain ⟨c2, hB⟩ := dg_e hB
      obtain ⟨r3, p4, hB⟩ := dp_e hB
      refine rg_gp rfl rfl rfl (of_decide_eq_true c2) p4 ?_
      refine rg_p rfl rfl ?_
      refine rg_p rfl rfl ?_
      refine rg_bi (v := (8 : Int32)) rfl (by decide) ?_
      show rg 105 351 _ _ _ _
      rcases db_e hB with ⟨q5, hB⟩ | ⟨q5, hB⟩
      · refine rg_bt (t := 359) (pc' := 354) rfl rfl q5 ?_
        refine rg_bi (v := (8 : Int32)) rfl (by decide) ?_
        exact sB_105_361 f  _ _ _ _ _ _ _ _ _ _ _ _ h _ hB
      · refine rg_bf (t := 359) (pc' := 354) rfl rfl q5 ?_
        refine rg_p rfl rfl ?_
        refine rg_p (pc' := 361) rfl rfl ?_
        exact sB_105_361 f  _ _ _ _ _ _ _ _ _ _ _ _ h _ hB
    · refine rg_bf (t := 341) (pc' := 315) rfl rfl q1 ?_
      refine rg_p rfl rfl ?_
      obtain ⟨c6, hB⟩ := dg_e hB
      obtain ⟨r7, p8, hB⟩ := dp_e hB
      refine rg_gp rfl rfl rfl (of_decide_eq_true c6) p8 ?_
      refine rg_bi (v := (60 : Int32)) rfl (by decide) ?_
      refine rg_p rfl rfl ?_
      refine rg_p rfl rfl ?_
      show rg 105 324 _ _ _ _
      refine rg_p rfl rfl ?_
      refine rg_p rfl rfl ?_
      refine rg_p rfl rfl ?_
      obtain ⟨r9, p10, hB⟩ := dp_e hB
      refine rg_gp rfl rfl rfl (of_decide_eq_true c6) p10 ?_
      refine rg_p rfl rfl ?_
      obtain ⟨c11, hB⟩ := dg_e hB
      refine rg_ia rfl (ai_of c11) ?_
      show rg 105 334 _ _ _ _
      obtain ⟨c12, hB⟩ := dg_e hB
      obtain ⟨h13, e14, hB⟩ := dl_e hB
      refine rg_is rfl (ai_of c12) e14 ?_
      refine rg_p (L' := [.ref l0, .int l1, .int l2, .int l3, .int l4, .int l5, .int l6, .int (l7 + (1 : Int32)), w8]) rfl rfl ?_
      refine rg_p (pc' := 309) rfl rfl ?_
      exact ih _ _ _ _ _ _ _ _ _ h13 _ hB
def B_105_239 (f : Nat) : Nat → Nat → Int32 → Int32 → Int32 → Int32 → Int32 → Int32 → Int32 → hp_T → Option ev_O
  | 0, _, _, _, _, _, _, _, _, _ => none
  | g + 1, l0, l1, l2, l3, l4, l5, l6, l7, h => (db (ev_c .ge l7 l5) (db (ev_c .ne l3 0) (B_105_413 f  l0 l3 l4 l5 l6 h) (dg (decide (hp_k h l0 = some (8, 0))) (dp (hp_p h l0 35) fun r4 => (dg (aib 64 h r4 l6) (dl (wz h r4 (Int32.toNatClampNeg l6) l2) fun h7 => (B_105_309 f  f l0 l1 l2 l3 l4 l5 l6 (0 : Int32) h7)))))) (dg (decide (hp_k h l0 = some (8, 0))) (dp (hp_p h l0 40) fun r10 => (dp (hp_p h l0 10) fun r12 => (dg (aib 64 h r12 (l2 + l7)) (dg (aib 64 h r10 ((((4000 : Int32) * l6) + l3) + l7)) (dl (wz h r10 (Int32.toNatClampNeg ((((4000 : Int32) * l6) + l3) + l7)) (hp_z h r12 (Int32.toNatClampNeg (l2 + l7)))) fun h16 => (dg (decide (hp_k h16 l0 = some (8, 0))) (dp (hp_p h16 l0 41) fun r19 => (dg (aib 66 h16 r19 ((((4000 : Int32) * l6) + l3) + l7)) (dl (wz h16 r19 (Int32.toNatClampNeg ((((4000 : Int32) * l6) + l3) + l7)) (vp_nar .boolean (1 : Int32))) fun h22 => ((B_105_239 f g) l0 l1 l2 l3 l4 l5 l6 (l7 + (1 : Int32)) h22))))))))))))
set_option maxRecDepth 20000 in
theorem sB_105_239 (f : Nat) : ∀ (g : Nat) (l0 : Nat) (l1 : Int32) (l2 : Int32) (l3 : Int32) (l4 : Int32) (l5 : Int32) (l6 : Int32) (l7 : Int32) (w8 : Value) (h : hp_T) (o : ev_O), B_105_239 f g l0 l1 l2 l3 l4 l5 l6 l7 h = some o → rg 105 239 [.ref l0, .int l1, .int l2, .int l3, .int l4, .int l5, .int l6, .int l7, w8] [] h o := by
  intro g
  induction g with
  | zero =>
    intro l0 l1 l2 l3 l4 l5 l6 l7 w8 h o hB
    rw [B_105_239] at hB
    cases hB
  | succ g ih =>
    intro l0 l1 l2 l3 l4 l5 l6 l7 w8 h o hB
    rw [B_105_239] at hB
    refine rg_p rfl rfl ?_
    refine rg_p rfl rfl ?_
    rcases db_e hB with ⟨q1, hB⟩ | ⟨q1, hB⟩
    · refine rg_bt (t := 294) (pc' := 246) rfl rfl q1 ?_
      refine rg_p rfl rfl ?_
      rcases db_e hB with ⟨q2, hB⟩ | ⟨q2, hB⟩
      · refine rg_bt (t := 413) (pc' := 298) rfl rfl q2 ?_
        exact sB_105_413 f  _ _ _ _ _ _ _ _ _ h _ hB
      · refine rg_bf (t := 413) (pc' := 298) rfl rfl q2 ?_
        refine rg_p rfl rfl ?_
        obtain ⟨c3, hB⟩ := dg_e hB
        obtain ⟨r4, p5, hB⟩ := dp_e hB
        refine rg_gp rfl rfl rfl (of_decide_eq_true c3) p5 ?_
        refine rg_p rfl rfl ?_
        refine rg_p rfl rfl ?_
        obtain ⟨c6, hB⟩ := dg_e hB
        obtain ⟨h7, e8, hB⟩ := dl_e hB
        refine rg_is rfl (ai_of c6) e8 ?_
        show rg 105 306 _ _ _ _
        refine rg_ic (v := (0 : Int32)) rfl (by decide) ?_
        refine rg_p (L' := [.ref l0, .int l1, .int l2, .int l3, .int l4, .int l5, .int l6, .int (0 : Int32), w8]) rfl rfl ?_
        exact sB_105_309 f  f _ _ _ _ _ _ _ _ _ h7 _ hB
    · refine rg_bf (t := 294) (pc' := 246) rfl rfl q1 ?_
      refine rg_p rfl rfl ?_
      obtain ⟨c9, hB⟩ := dg_e hB
      obtain ⟨r10, p11, hB⟩ := dp_e hB
      refine rg_gp rfl rfl rfl (of_decide_eq_true c9) p11 ?_
      refine rg_si (v := (4000 : Int32)) rfl (by decide) ?_
      refine rg_p rfl rfl ?_
      refine rg_p rfl rfl ?_
      show rg 105 256 _ _ _ _
      refine rg_p rfl rfl ?_
      refine rg_p rfl rfl ?_
      refine rg_p rfl rfl ?_
      refine rg_p rfl rfl ?_
      refine rg_p rfl rfl ?_
      obtain ⟨r12, p13, hB⟩ := dp_e hB
      refine rg_gp rfl rfl rfl (of_decide_eq_true c9) p13 ?_
      show rg 105 265 _ _ _ _
      refine rg_p rfl rfl ?_
      refine rg_p rfl rfl ?_
      refine rg_p rfl rfl ?_
      obtain ⟨c14, hB⟩ := dg_e hB
      refine rg_ia rfl (ai_of c14) ?_
      obtain ⟨c15, hB⟩ := dg_e hB
      obtain ⟨h16, e17, hB⟩ := dl_e hB
      refine rg_is rfl (ai_of c15) e17 ?_
      refine rg_p rfl rfl ?_
      show rg 105 272 _ _ _ _
      obtain ⟨c18, hB⟩ := dg_e hB
      obtain ⟨r19, p20, hB⟩ := dp_e hB
      refine rg_gp rfl rfl rfl (of_decide_eq_true c18) p20 ?_
      refine rg_si (v := (4000 : Int32)) rfl (by decide) ?_
      refine rg_p rfl rfl ?_
      refine rg_p rfl rfl ?_
      refine rg_p rfl rfl ?_
      refine rg_p rfl rfl ?_
      show rg 105 283 _ _ _ _
      refine rg_p rfl rfl ?_
      refine rg_p rfl rfl ?_
      refine rg_ic (v := (1 : Int32)) rfl (by decide) ?_
      obtain ⟨c21, hB⟩ := dg_e hB
      obtain ⟨h22, e23, hB⟩ := dl_e hB
      refine rg_bs (t := 66) (ty := .boolean) (by decide) rfl rfl (ai_of c21) e23 ?_
      refine rg_p (L' := [.ref l0, .int l1, .int l2, .int l3, .int l4, .int l5, .int l6, .int (l7 + (1 : Int32)), w8]) rfl rfl ?_
      refine rg_p (pc' := 239) rfl rfl ?_
      exact ih _ _ _ _ _ _ _ _ _ h22 _ hB
def B_105_236 (f : Nat) (l0 : Nat) (l1 : Int32) (l2 : Int32) (l3 : Int32) (l4 : Int32) (l5 : Int32) (l6 : Int32) (h : hp_T) : Option ev_O := (B_105_239 f  f l0 l1 l2 l3 l4 l5 l6 (0 : Int32) h)
set_option maxRecDepth 20000 in
theorem sB_105_236 (f : Nat) (l0 : Nat) (l1 : Int32) (l2 : Int32) (l3 : Int32) (l4 : Int32) (l5 : Int32) (l6 : Int32) (w7 : Value) (w8 : Value) (h : hp_T) (o : ev_O) (hB : B_105_236 f l0 l1 l2 l3 l4 l5 l6 h = some o) : rg 105 236 [.ref l0, .int l1, .int l2, .int l3, .int l4, .int l5, .int l6, w7, w8] [] h o := by
  unfold B_105_236 at hB
  refine rg_ic (v := (0 : Int32)) rfl (by decide) ?_
  refine rg_p (L' := [.ref l0, .int l1, .int l2, .int l3, .int l4, .int l5, .int l6, .int (0 : Int32), w8]) rfl rfl ?_
  exact sB_105_239 f  f _ _ _ _ _ _ _ _ _ h _ hB
def B_105_207 (f : Nat) : Nat → Nat → Int32 → Int32 → Int32 → Int32 → Int32 → Int32 → Int32 → hp_T → Option ev_O
  | 0, _, _, _, _, _, _, _, _, _ => none
  | g + 1, l0, l1, l2, l3, l4, l5, l6, l7, h => (db (ev_c .ge l7 (4000 : Int32)) (B_105_236 f  l0 l1 l2 l3 l4 l5 l6 h) (dg (decide (hp_k h l0 = some (8, 0))) (dp (hp_p h l0 41) fun r3 => (dg (aib 66 h r3 (((4000 : Int32) * l6) + l7)) (dl (wz h r3 (Int32.toNatClampNeg (((4000 : Int32) * l6) + l7)) (vp_nar .boolean (0 : Int32))) fun h6 => ((B_105_207 f g) l0 l1 l2 l3 l4 l5 l6 (l7 + (1 : Int32)) h6))))))
set_option maxRecDepth 20000 in
theorem sB_105_207 (f : Nat) : ∀ (g : Nat) (l0 : Nat) (l1 : Int32) (l2 : Int32) (l3 : Int32) (l4 : Int32) (l5 : Int32) (l6 : Int32) (l7 : Int32) (w8 : Value) (h : hp_T) (o : ev_O), B_105_207 f g l0 l1 l2 l3 l4 l5 l6 l7 h = some o → rg 105 207 [.ref l0, .int l1, .int l2, .int l3, .int l4, .int l5, .int l6, .int l7, w8] [] h o := by
  intro g
  induction g with
  | zero =>
    intro l0 l1 l2 l3 l4 l5 l6 l7 w8 h o hB
    rw [B_105_207] at hB
    cases hB
  | succ g ih =>
    intro l0 l1 l2 l3 l4 l5 l6 l7 w8 h o hB
    rw [B_105_207] at hB
    refine rg_p rfl rfl ?_
    refine rg_si (v := (4000 : Int32)) rfl (by decide) ?_
    rcases db_e hB with ⟨q1, hB⟩ | ⟨q1, hB⟩
    · refine rg_bt (t := 236) (pc' := 215) rfl rfl q1 ?_
      exact sB_105_236 f  _ _ _ _ _ _ _ _ _ h _ hB
    · refine rg_bf (t := 236) (pc' := 215) rfl rfl q1 ?_
      refine rg_p rfl rfl ?_
      obtain ⟨c2, hB⟩ := dg_e hB
      obtain ⟨r3, p4, hB⟩ := dp_e hB
      refine rg_gp rfl rfl rfl (of_decide_eq_true c2) p4 ?_
      refine rg_si (v := (4000 : Int32)) rfl (by decide) ?_
      refine rg_p rfl rfl ?_
      refine rg_p rfl rfl ?_
      show rg 105 225 _ _ _ _
      refine rg_p rfl rfl ?_
      refine rg_p rfl rfl ?_
      refine rg_ic (v := (0 : Int32)) rfl (by decide) ?_
      obtain ⟨c5, hB⟩ := dg_e hB
      obtain ⟨h6, e7, hB⟩ := dl_e hB
      refine rg_bs (t := 66) (ty := .boolean) (by decide) rfl rfl (ai_of c5) e7 ?_
      refine rg_p (L' := [.ref l0, .int l1, .int l2, .int l3, .int l4, .int l5, .int l6, .int (l7 + (1 : Int32)), w8]) rfl rfl ?_
      refine rg_p (pc' := 207) rfl rfl ?_
      exact ih _ _ _ _ _ _ _ _ _ h6 _ hB
def B_105_110 (f : Nat) (l0 : Nat) (l1 : Int32) (l2 : Int32) (l3 : Int32) (l4 : Int32) (l5 : Int32) (h : hp_T) : Option ev_O := (dg (decide (hp_k h l0 = some (8, 0))) (dl (wz h l0 28 ((hp_z h l0 28) + (1 : Int32))) fun h2 => (dg (decide (hp_k h2 l0 = some (8, 0))) (dp (hp_p h2 l0 29) fun r5 => (dp (hp_p h2 l0 10) fun r7 => (di (F_90 f r7 (12 : Int32) h2) fun v12 h9 => (dg (aib 64 h9 r5 (hp_z h l0 28)) (dl (wz h9 r5 (Int32.toNatClampNeg (hp_z h l0 28)) v12) fun h14 => (dg (decide (hp_k h14 l0 = some (8, 0))) (dp (hp_p h14 l0 30) fun r17 => (dp (hp_p h14 l0 10) fun r19 => (di (F_90 f r19 (16 : Int32) h14) fun v24 h21 => (dg (aib 64 h21 r17 (hp_z h l0 28)) (dl (wz h21 r17 (Int32.toNatClampNeg (hp_z h l0 28)) v24) fun h26 => (dg (decide (hp_k h26 l0 = some (8, 0))) (dp (hp_p h26 l0 31) fun r29 => (di (F_102 f l0 h26) fun v34 h31 => (dg (aib 64 h31 r29 (hp_z h l0 28)) (dl (wz h31 r29 (Int32.toNatClampNeg (hp_z h l0 28)) v34) fun h36 => (dg (decide (hp_k h36 l0 = some (8, 0))) (dp (hp_p h36 l0 32) fun r39 => (dg (aib 64 h36 r39 (hp_z h l0 28)) (dl (wz h36 r39 (Int32.toNatClampNeg (hp_z h l0 28)) (hp_z h36 l0 22)) fun h42 => (dg (decide (hp_k h42 l0 = some (8, 0))) (dp (hp_p h42 l0 33) fun r45 => (dg (aib 64 h42 r45 (hp_z h l0 28)) (dl (wz h42 r45 (Int32.toNatClampNeg (hp_z h l0 28)) (-1 : Int32)) fun h48 => (dg (decide (hp_k h48 l0 = some (8, 0))) (dp (hp_p h48 l0 34) fun r51 => (dg (aib 64 h48 r51 (hp_z h l0 28)) (dl (wz h48 r51 (Int32.toNatClampNeg (hp_z h l0 28)) (0 : Int32)) fun h54 => (dg (decide (hp_k h54 l0 = some (8, 0))) (dp (hp_p h54 l0 35) fun r57 => (dg (aib 64 h54 r57 (hp_z h l0 28)) (dl (wz h54 r57 (Int32.toNatClampNeg (hp_z h l0 28)) (0 : Int32)) fun h60 => (B_105_207 f  f l0 l1 l2 l3 l4 l5 (hp_z h l0 28) (0 : Int32) h60))))))))))))))))))))))))))))))))))))
set_option maxRecDepth 20000 in
theorem sB_105_110 (f : Nat) (l0 : Nat) (l1 : Int32) (l2 : Int32) (l3 : Int32) (l4 : Int32) (l5 : Int32) (w6 : Value) (w7 : Value) (w8 : Value) (h : hp_T) (o : ev_O) (hB : B_105_110 f l0 l1 l2 l3 l4 l5 h = some o) : rg 105 110 [.ref l0, .int l1, .int l2, .int l3, .int l4, .int l5, w6, w7, w8] [] h o := by
  unfold B_105_110 at hB
  refine rg_p rfl rfl ?_
  obtain ⟨c1, hB⟩ := dg_e hB
  refine rg_gz rfl rfl rfl (of_decide_eq_true c1) ?_
  refine rg_p (L' := [.ref l0, .int l1, .int l2, .int l3, .int l4, .int l5, .int (hp_z h l0 28), w7, w8]) rfl rfl ?_
  refine rg_p rfl rfl ?_
  refine rg_p rfl rfl ?_
  show rg 105 118 _ _ _ _
  refine rg_gz rfl rfl rfl (of_decide_eq_true c1) ?_
  refine rg_ic (v := (1 : Int32)) rfl (by decide) ?_
  refine rg_p rfl rfl ?_
  obtain ⟨h2, e3, hB⟩ := dl_e hB
  refine rg_pi rfl rfl rfl (of_decide_eq_true c1) e3 ?_
  refine rg_p rfl rfl ?_
  obtain ⟨c4, hB⟩ := dg_e hB
  obtain ⟨r5, p6, hB⟩ := dp_e hB
  refine rg_gp rfl rfl rfl (of_decide_eq_true c4) p6 ?_
  show rg 105 130 _ _ _ _
  refine rg_p rfl rfl ?_
  refine rg_p rfl rfl ?_
  obtain ⟨r7, p8, hB⟩ := dp_e hB
  refine rg_gp rfl rfl rfl (of_decide_eq_true c4) p8 ?_
  refine rg_bi (v := (12 : Int32)) rfl (by decide) ?_
  rcases di_e hB with ⟨v12, h9, z10, hB⟩ | ⟨q11, h9, z10, hB⟩
  · refine rg_call (rg_s9 (n := 2) (as := [.ref r7, .int (12 : Int32)]) (ar := []) rfl (rg_s0 rfl) rfl rfl (Nat.le_of_ble_eq_true rfl) rfl rfl (Nat.le_of_ble_eq_true rfl)) (sF_90 z10) ?_
    obtain ⟨c13, hB⟩ := dg_e hB
    obtain ⟨h14, e15, hB⟩ := dl_e hB
    refine rg_is rfl (ai_of c13) e15 ?_
    refine rg_p rfl rfl ?_
    obtain ⟨c16, hB⟩ := dg_e hB
    obtain ⟨r17, p18, hB⟩ := dp_e hB
    refine rg_gp rfl rfl rfl (of_decide_eq_true c16) p18 ?_
    refine rg_p rfl rfl ?_
    refine rg_p rfl rfl ?_
    show rg 105 149 _ _ _ _
    obtain ⟨r19, p20, hB⟩ := dp_e hB
    refine rg_gp rfl rfl rfl (of_decide_eq_true c16) p20 ?_
    refine rg_bi (v := (16 : Int32)) rfl (by decide) ?_
    rcases di_e hB with ⟨v24, h21, z22, hB⟩ | ⟨q23, h21, z22, hB⟩
    · refine rg_call (rg_s9 (n := 2) (as := [.ref r19, .int (16 : Int32)]) (ar := []) rfl (rg_s0 rfl) rfl rfl (Nat.le_of_ble_eq_true rfl) rfl rfl (Nat.le_of_ble_eq_true rfl)) (sF_90 z22) ?_
      obtain ⟨c25, hB⟩ := dg_e hB
      obtain ⟨h26, e27, hB⟩ := dl_e hB
      refine rg_is rfl (ai_of c25) e27 ?_
      refine rg_p rfl rfl ?_
      obtain ⟨c28, hB⟩ := dg_e hB
      obtain ⟨r29, p30, hB⟩ := dp_e hB
      refine rg_gp rfl rfl rfl (of_decide_eq_true c28) p30 ?_
      refine rg_p rfl rfl ?_
      refine rg_p rfl rfl ?_
      show rg 105 165 _ _ _ _
      rcases di_e hB with ⟨v34, h31, z32, hB⟩ | ⟨q33, h31, z32, hB⟩
      · refine rg_call (rg_v9 (n := 0) (b := l0) (as := [.ref l0]) (ar := []) rfl rfl rfl (Nat.le_of_ble_eq_true rfl) rfl rfl (Nat.le_of_ble_eq_true rfl) (of_decide_eq_true c28)) (sF_102 z32) ?_
        obtain ⟨c35, hB⟩ := dg_e hB
        obtain ⟨h36, e37, hB⟩ := dl_e hB
        refine rg_is rfl (ai_of c35) e37 ?_
        refine rg_p rfl rfl ?_
        obtain ⟨c38, hB⟩ := dg_e hB
        obtain ⟨r39, p40, hB⟩ := dp_e hB
        refine rg_gp rfl rfl rfl (of_decide_eq_true c38) p40 ?_
        refine rg_p rfl rfl ?_
        refine rg_p rfl rfl ?_
        show rg 105 176 _ _ _ _
        refine rg_gz rfl rfl rfl (of_decide_eq_true c38) ?_
        obtain ⟨c41, hB⟩ := dg_e hB
        obtain ⟨h42, e43, hB⟩ := dl_e hB
        refine rg_is rfl (ai_of c41) e43 ?_
        refine rg_p rfl rfl ?_
        obtain ⟨c44, hB⟩ := dg_e hB
        obtain ⟨r45, p46, hB⟩ := dp_e hB
        refine rg_gp rfl rfl rfl (of_decide_eq_true c44) p46 ?_
        refine rg_p rfl rfl ?_
        refine rg_ic (v := (-1 : Int32)) rfl (by decide) ?_
        show rg 105 187 _ _ _ _
        obtain ⟨c47, hB⟩ := dg_e hB
        obtain ⟨h48, e49, hB⟩ := dl_e hB
        refine rg_is rfl (ai_of c47) e49 ?_
        refine rg_p rfl rfl ?_
        obtain ⟨c50, hB⟩ := dg_e hB
        obtain ⟨r51, p52, hB⟩ := dp_e hB
        refine rg_gp rfl rfl rfl (of_decide_eq_true c50) p52 ?_
        refine rg_p rfl rfl ?_
        refine rg_ic (v := (0 : Int32)) rfl (by decide) ?_
        obtain ⟨c53, hB⟩ := dg_e hB
        obtain ⟨h54, e55, hB⟩ := dl_e hB
        refine rg_is rfl (ai_of c53) e55 ?_
        show rg 105 196 _ _ _ _
        refine rg_p rfl rfl ?_
        obtain ⟨c56, hB⟩ := dg_e hB
        obtain ⟨r57, p58, hB⟩ := dp_e hB
        refine rg_gp rfl rfl rfl (of_decide_eq_true c56) p58 ?_
        refine rg_p rfl rfl ?_
        refine rg_ic (v := (0 : Int32)) rfl (by decide) ?_
        obtain ⟨c59, hB⟩ := dg_e hB
        obtain ⟨h60, e61, hB⟩ := dl_e hB
        refine rg_is rfl (ai_of c59) e61 ?_
        refine rg_ic (v := (0 : Int32)) rfl (by decide) ?_
        show rg 105 205 _ _ _ _
        refine rg_p (L' := [.ref l0, .int l1, .int l2, .int l3, .int l4, .int l5, .int (hp_z h l0 28), .int (0 : Int32), w8]) rfl rfl ?_
        exact sB_105_207 f  f _ _ _ _ _ _ _ _ _ h60 _ hB
      · subst hB
        exact rg_callX (rg_v9 (n := 0) (b := l0) (as := [.ref l0]) (ar := []) rfl rfl rfl (Nat.le_of_ble_eq_true rfl) rfl rfl (Nat.le_of_ble_eq_true rfl) (of_decide_eq_true c28)) (sF_102 z32)
    · subst hB
      exact rg_callX (rg_s9 (n := 2) (as := [.ref r19, .int (16 : Int32)]) (ar := []) rfl (rg_s0 rfl) rfl rfl (Nat.le_of_ble_eq_true rfl) rfl rfl (Nat.le_of_ble_eq_true rfl)) (sF_90 z22)
  · subst hB
    exact rg_callX (rg_s9 (n := 2) (as := [.ref r7, .int (12 : Int32)]) (ar := []) rfl (rg_s0 rfl) rfl rfl (Nat.le_of_ble_eq_true rfl) rfl rfl (Nat.le_of_ble_eq_true rfl)) (sF_90 z10)
def B_105_89 (f : Nat) (h : hp_T) : Option ev_O := (some (.inl (some (.int (0 : Int32))), h))
set_option maxRecDepth 20000 in
theorem sB_105_89 (f : Nat) (w0 : Value) (w1 : Value) (w2 : Value) (w3 : Value) (w4 : Value) (w5 : Value) (w6 : Value) (w7 : Value) (w8 : Value) (h : hp_T) (o : ev_O) (hB : B_105_89 f  h = some o) : rg 105 89 [w0, w1, w2, w3, w4, w5, w6, w7, w8] [] h o := by
  unfold B_105_89 at hB
  refine rg_ic (v := (0 : Int32)) rfl (by decide) ?_
  cases hB
  exact rg_ri rfl rfl (dz_n dz_0)
def B_105_47 (f : Nat) (l0 : Nat) (l1 : Int32) (l2 : Int32) (l3 : Int32) (s0 : Int32) (h : hp_T) : Option ev_O := (dg (decide (hp_k h l0 = some (8, 0))) (di (F_103 f l0 h) fun v5 h2 => (dg (decide (hp_k h2 l0 = some (8, 0))) (di (F_104 f l0 v5 l3 ((hp_z h l0 12) - l2) s0 h2) fun v10 h7 => (db (ev_c .eq v10 0) (db (ev_c .ne v5 (-1 : Int32)) (B_105_236 f  l0 l1 l2 l3 s0 ((hp_z h l0 12) - l2) v5 h7) (dg (decide (hp_k h7 l0 = some (8, 0))) (db (ev_c .ne (hp_z h7 l0 28) (4 : Int32)) (B_105_110 f  l0 l1 l2 l3 s0 ((hp_z h l0 12) - l2) h7) (dv (F_101 f l0 (0 : Int32) h7) fun h15 => (B_105_110 f  l0 l1 l2 l3 s0 ((hp_z h l0 12) - l2) h15))))) (db (ev_c .eq v5 (-1 : Int32)) (B_105_89 f   h7) (dg (decide (hp_k h7 l0 = some (8, 0))) (dv (F_101 f l0 v5 h7) fun h20 => (B_105_89 f   h20)))))))))
set_option maxRecDepth 20000 in
theorem sB_105_47 (f : Nat) (l0 : Nat) (l1 : Int32) (l2 : Int32) (l3 : Int32) (s0 : Int32) (w4 : Value) (w5 : Value) (w6 : Value) (w7 : Value) (w8 : Value) (h : hp_T) (o : ev_O) (hB : B_105_47 f l0 l1 l2 l3 s0 h = some o) : rg 105 47 [.ref l0, .int l1, .int l2, .int l3, w4, w5, w6, w7, w8] [.int s0] h o := by
  unfold B_105_47 at hB
  refine rg_p (L' := [.ref l0, .int l1, .int l2, .int l3, .int s0, w5, w6, w7, w8]) rfl rfl ?_
  refine rg_p rfl rfl ?_
  obtain ⟨c1, hB⟩ := dg_e hB
  refine rg_gz rfl rfl rfl (of_decide_eq_true c1) ?_
  refine rg_p rfl rfl ?_
  refine rg_p rfl rfl ?_
  show rg 105 55 _ _ _ _
  refine rg_p (L' := [.ref l0, .int l1, .int l2, .int l3, .int s0, .int ((hp_z h l0 12) - l2), w6, w7, w8]) rfl rfl ?_
  refine rg_p rfl rfl ?_
  rcases di_e hB with ⟨v5, h2, z3, hB⟩ | ⟨q4, h2, z3, hB⟩
  · refine rg_call (rg_v9 (n := 0) (b := l0) (as := [.ref l0]) (ar := []) rfl rfl rfl (Nat.le_of_ble_eq_true rfl) rfl rfl (Nat.le_of_ble_eq_true rfl) (of_decide_eq_true c1)) (sF_103 z3) ?_
    refine rg_p (L' := [.ref l0, .int l1, .int l2, .int l3, .int s0, .int ((hp_z h l0 12) - l2), .int v5, w7, w8]) rfl rfl ?_
    refine rg_p rfl rfl ?_
    refine rg_p rfl rfl ?_
    refine rg_p rfl rfl ?_
    refine rg_p rfl rfl ?_
    show rg 105 69 _ _ _ _
    refine rg_p rfl rfl ?_
    obtain ⟨c6, hB⟩ := dg_e hB
    rcases di_e hB with ⟨v10, h7, z8, hB⟩ | ⟨q9, h7, z8, hB⟩
    · refine rg_call (rg_v9 (n := 4) (b := l0) (as := [.ref l0, .int v5, .int l3, .int ((hp_z h l0 12) - l2), .int s0]) (ar := []) rfl rfl rfl (Nat.le_of_ble_eq_true rfl) rfl rfl (Nat.le_of_ble_eq_true rfl) (of_decide_eq_true c6)) (sF_104 z8) ?_
      rcases db_e hB with ⟨q11, hB⟩ | ⟨q11, hB⟩
      · refine rg_bt (t := 91) (pc' := 77) rfl rfl q11 ?_
        refine rg_p rfl rfl ?_
        refine rg_ic (v := (-1 : Int32)) rfl (by decide) ?_
        rcases db_e hB with ⟨q12, hB⟩ | ⟨q12, hB⟩
        · refine rg_bt (t := 236) (pc' := 97) rfl rfl q12 ?_
          exact sB_105_236 f  _ _ _ _ _ _ _ _ _ h7 _ hB
        · refine rg_bf (t := 236) (pc' := 97) rfl rfl q12 ?_
          refine rg_p rfl rfl ?_
          obtain ⟨c13, hB⟩ := dg_e hB
          refine rg_gz rfl rfl rfl (of_decide_eq_true c13) ?_
          refine rg_ic (v := (4 : Int32)) rfl (by decide) ?_
          rcases db_e hB with ⟨q14, hB⟩ | ⟨q14, hB⟩
          · refine rg_bt (t := 110) (pc' := 105) rfl rfl q14 ?_
            exact sB_105_110 f  _ _ _ _ _ _ _ _ _ h7 _ hB
          · refine rg_bf (t := 110) (pc' := 105) rfl rfl q14 ?_
            refine rg_p rfl rfl ?_
            refine rg_ic (v := (0 : Int32)) rfl (by decide) ?_
            rcases dv_e hB with ⟨h15, z16, hB⟩ | ⟨q17, h15, z16, hB⟩
            · refine rg_call (rg_v9 (n := 1) (b := l0) (as := [.ref l0, .int (0 : Int32)]) (ar := []) rfl rfl rfl (Nat.le_of_ble_eq_true rfl) rfl rfl (Nat.le_of_ble_eq_true rfl) (of_decide_eq_true c13)) (sF_101 z16) ?_
              exact sB_105_110 f  _ _ _ _ _ _ _ _ _ h15 _ hB
            · subst hB
              exact rg_callX (rg_v9 (n := 1) (b := l0) (as := [.ref l0, .int (0 : Int32)]) (ar := []) rfl rfl rfl (Nat.le_of_ble_eq_true rfl) rfl rfl (Nat.le_of_ble_eq_true rfl) (of_decide_eq_true c13)) (sF_101 z16)
      · refine rg_bf (t := 91) (pc' := 77) rfl rfl q11 ?_
        refine rg_p rfl rfl ?_
        refine rg_ic (v := (-1 : Int32)) rfl (by decide) ?_
        rcases db_e hB with ⟨q18, hB⟩ | ⟨q18, hB⟩
        · refine rg_bt (t := 89) (pc' := 83) rfl rfl q18 ?_
          exact sB_105_89 f  _ _ _ _ _ _ _ _ _ h7 _ hB
        · refine rg_bf (t := 89) (pc' := 83) rfl rfl q18 ?_
          refine rg_p rfl rfl ?_
          refine rg_p rfl rfl ?_
          obtain ⟨c19, hB⟩ := dg_e hB
          rcases dv_e hB with ⟨h20, z21, hB⟩ | ⟨q22, h20, z21, hB⟩
          · refine rg_call (rg_v9 (n := 1) (b := l0) (as := [.ref l0, .int v5]) (ar := []) rfl rfl rfl (Nat.le_of_ble_eq_true rfl) rfl rfl (Nat.le_of_ble_eq_true rfl) (of_decide_eq_true c19)) (sF_101 z21) ?_
            exact sB_105_89 f  _ _ _ _ _ _ _ _ _ h20 _ hB
          · subst hB
            exact rg_callX (rg_v9 (n := 1) (b := l0) (as := [.ref l0, .int v5]) (ar := []) rfl rfl rfl (Nat.le_of_ble_eq_true rfl) rfl rfl (Nat.le_of_ble_eq_true rfl) (of_decide_eq_true c19)) (sF_101 z21)
    · subst hB
      exact rg_callX (rg_v9 (n := 4) (b := l0) (as := [.ref l0, .int v5, .int l3, .int ((hp_z h l0 12) - l2), .int s0]) (ar := []) rfl rfl rfl (Nat.le_of_ble_eq_true rfl) rfl rfl (Nat.le_of_ble_eq_true rfl) (of_decide_eq_true c6)) (sF_104 z8)
  · subst hB
    exact rg_callX (rg_v9 (n := 0) (b := l0) (as := [.ref l0]) (ar := []) rfl rfl rfl (Nat.le_of_ble_eq_true rfl) rfl rfl (Nat.le_of_ble_eq_true rfl) (of_decide_eq_true c1)) (sF_103 z3)
def F_105 (f : Nat) (a0 : Nat) (a1 : Int32) (h : hp_T) : Option ev_O := (dg (decide (hp_k h a0 = some (8, 0))) (dp (hp_p h a0 10) fun r2 => (dg (aib 64 h r2 (0 : Int32)) (di (F_89 f r2 (6 : Int32) h) fun v8 h5 => (dg (decide (hp_k h5 a0 = some (8, 0))) (dp (hp_p h5 a0 10) fun r10 => (dg (aib 64 h5 r10 (6 : Int32)) (db (ev_c .le ((hp_z h5 r10 (Int32.toNatClampNeg (6 : Int32))) &&& (32 : Int32)) 0) (B_105_47 f  a0 a1 ((4 : Int32) * ((hp_z h r2 (Int32.toNatClampNeg (0 : Int32))) &&& (15 : Int32))) ((8 : Int32) * (v8 &&& (8191 : Int32))) (0 : Int32) h5) (B_105_47 f  a0 a1 ((4 : Int32) * ((hp_z h r2 (Int32.toNatClampNeg (0 : Int32))) &&& (15 : Int32))) ((8 : Int32) * (v8 &&& (8191 : Int32))) (1 : Int32) h5)))))))))
set_option maxRecDepth 20000 in
theorem sF_105 {f : Nat} {a0 : Nat} {a1 : Int32} {h : hp_T} {o : ev_O} (hB : F_105 f a0 a1 h = some o) : rm 105 [.ref a0, .int a1] h o := by
  unfold F_105 at hB
  refine rm_in (L := [.ref a0, .int a1, .null, .null, .null, .null, .null, .null, .null]) (Nat.le_of_ble_eq_true rfl) rfl ?_
  refine rg_ic (v := (4 : Int32)) rfl (by decide) ?_
  refine rg_p rfl rfl ?_
  obtain ⟨c1, hB⟩ := dg_e hB
  obtain ⟨r2, p3, hB⟩ := dp_e hB
  refine rg_gp rfl rfl rfl (of_decide_eq_true c1) p3 ?_
  refine rg_ic (v := (0 : Int32)) rfl (by decide) ?_
  obtain ⟨c4, hB⟩ := dg_e hB
  refine rg_ia rfl (ai_of c4) ?_
  show rg 105 7 _ _ _ _
  refine rg_bi (v := (15 : Int32)) rfl (by decide) ?_
  refine rg_p rfl rfl ?_
  refine rg_p rfl rfl ?_
  refine rg_p (L' := [.ref a0, .int a1, .int ((4 : Int32) * ((hp_z h r2 (Int32.toNatClampNeg (0 : Int32))) &&& (15 : Int32))), .null, .null, .null, .null, .null, .null]) rfl rfl ?_
  refine rg_bi (v := (8 : Int32)) rfl (by decide) ?_
  refine rg_p rfl rfl ?_
  show rg 105 15 _ _ _ _
  refine rg_gp rfl rfl rfl (of_decide_eq_true c1) p3 ?_
  refine rg_bi (v := (6 : Int32)) rfl (by decide) ?_
  rcases di_e hB with ⟨v8, h5, z6, hB⟩ | ⟨q7, h5, z6, hB⟩
  · refine rg_call (rg_s9 (n := 2) (as := [.ref r2, .int (6 : Int32)]) (ar := []) rfl (rg_s0 rfl) rfl rfl (Nat.le_of_ble_eq_true rfl) rfl rfl (Nat.le_of_ble_eq_true rfl)) (sF_89 z6) ?_
    refine rg_si (v := (8191 : Int32)) rfl (by decide) ?_
    refine rg_p rfl rfl ?_
    refine rg_p rfl rfl ?_
    refine rg_p (L' := [.ref a0, .int a1, .int ((4 : Int32) * ((hp_z h r2 (Int32.toNatClampNeg (0 : Int32))) &&& (15 : Int32))), .int ((8 : Int32) * (v8 &&& (8191 : Int32))), .null, .null, .null, .null, .null]) rfl rfl ?_
    refine rg_p rfl rfl ?_
    show rg 105 30 _ _ _ _
    obtain ⟨c9, hB⟩ := dg_e hB
    obtain ⟨r10, p11, hB⟩ := dp_e hB
    refine rg_gp rfl rfl rfl (of_decide_eq_true c9) p11 ?_
    refine rg_bi (v := (6 : Int32)) rfl (by decide) ?_
    obtain ⟨c12, hB⟩ := dg_e hB
    refine rg_ia rfl (ai_of c12) ?_
    refine rg_bi (v := (32 : Int32)) rfl (by decide) ?_
    refine rg_p rfl rfl ?_
    rcases db_e hB with ⟨q13, hB⟩ | ⟨q13, hB⟩
    · refine rg_bt (t := 46) (pc' := 42) rfl rfl q13 ?_
      refine rg_ic (v := (0 : Int32)) rfl (by decide) ?_
      exact sB_105_47 f  _ _ _ _ _ _ _ _ _ _ h5 _ hB
    · refine rg_bf (t := 46) (pc' := 42) rfl rfl q13 ?_
      refine rg_ic (v := (1 : Int32)) rfl (by decide) ?_
      refine rg_p (pc' := 47) rfl rfl ?_
      exact sB_105_47 f  _ _ _ _ _ _ _ _ _ _ h5 _ hB
  · subst hB
    exact rg_callX (rg_s9 (n := 2) (as := [.ref r2, .int (6 : Int32)]) (ar := []) rfl (rg_s0 rfl) rfl rfl (Nat.le_of_ble_eq_true rfl) rfl rfl (Nat.le_of_ble_eq_true rfl)) (sF_89 z6)
