-- 88: RouteHouseModel.putTwo([III)V
def F_88 (f : Nat) (a0 : Nat) (a1 : Int32) (a2 : Int32) (h : hp_T) : Option ev_O := (dg (aib 64 h a0 a1) (dl (wz h a0 (Int32.toNatClampNeg a1) ((a2 >>> ((8 : Int32) &&& 31)) &&& (255 : Int32))) fun h2 => (dg (aib 64 h2 a0 (a1 + (1 : Int32))) (dl (wz h2 a0 (Int32.toNatClampNeg (a1 + (1 : Int32))) (a2 &&& (255 : Int32))) fun h5 => (some (.inl none, h5))))))
theorem sF_88 {f : Nat} {a0 : Nat} {a1 : Int32} {a2 : Int32} {h : hp_T} {o : ev_O} (hB : F_88 f a0 a1 a2 h = some o) : rm 88 [.ref a0, .int a1, .int a2] h o := by
  unfold F_88 at hB
  refine rm_in (L := [.ref a0, .int a1, .int a2]) (Nat.le_of_ble_eq_true rfl) rfl ?_
  refine rg_p rfl rfl ?_
  refine rg_p rfl rfl ?_
  refine rg_p rfl rfl ?_
  refine rg_bi (v := (8 : Int32)) rfl (by decide) ?_
  refine rg_p rfl rfl ?_
  show rg 88 6 _ _ _ _
  refine rg_si (v := (255 : Int32)) rfl (by decide) ?_
  refine rg_p rfl rfl ?_
  obtain ⟨c1, hB⟩ := dg_e hB
  obtain ⟨h2, e3, hB⟩ := dl_e hB
  refine rg_is rfl (ai_of c1) e3 ?_
  refine rg_p rfl rfl ?_
  refine rg_p rfl rfl ?_
  refine rg_ic (v := (1 : Int32)) rfl (by decide) ?_
  show rg 88 14 _ _ _ _
  refine rg_p rfl rfl ?_
  refine rg_p rfl rfl ?_
  refine rg_si (v := (255 : Int32)) rfl (by decide) ?_
  refine rg_p rfl rfl ?_
  obtain ⟨c4, hB⟩ := dg_e hB
  obtain ⟨h5, e6, hB⟩ := dl_e hB
  refine rg_is rfl (ai_of c4) e6 ?_
  cases hB
  exact rg_rv rfl rfl
-- 89: RouteHouseModel.two([II)I
def F_89 (f : Nat) (a0 : Nat) (a1 : Int32) (h : hp_T) : Option ev_O := (dg (aib 64 h a0 a1) (dg (aib 64 h a0 (a1 + (1 : Int32))) (some (.inl (some (.int (((hp_z h a0 (Int32.toNatClampNeg a1)) <<< ((8 : Int32) &&& 31)) ||| (hp_z h a0 (Int32.toNatClampNeg (a1 + (1 : Int32))))))), h))))
theorem sF_89 {f : Nat} {a0 : Nat} {a1 : Int32} {h : hp_T} {o : ev_O} (hB : F_89 f a0 a1 h = some o) : rm 89 [.ref a0, .int a1] h o := by
  unfold F_89 at hB
  refine rm_in (L := [.ref a0, .int a1]) (Nat.le_of_ble_eq_true rfl) rfl ?_
  refine rg_p rfl rfl ?_
  refine rg_p rfl rfl ?_
  obtain ⟨c1, hB⟩ := dg_e hB
  refine rg_ia rfl (ai_of c1) ?_
  refine rg_bi (v := (8 : Int32)) rfl (by decide) ?_
  refine rg_p rfl rfl ?_
  show rg 89 6 _ _ _ _
  refine rg_p rfl rfl ?_
  refine rg_p rfl rfl ?_
  refine rg_ic (v := (1 : Int32)) rfl (by decide) ?_
  refine rg_p rfl rfl ?_
  obtain ⟨c2, hB⟩ := dg_e hB
  refine rg_ia rfl (ai_of c2) ?_
  refine rg_p rfl rfl ?_
  show rg 89 12 _ _ _ _
  cases hB
  exact rg_ri rfl rfl rfl
-- 90: RouteHouseModel.four([II)I
def F_90 (f : Nat) (a0 : Nat) (a1 : Int32) (h : hp_T) : Option ev_O := (di (F_89 f a0 a1 h) fun v4 h1 => (di (F_89 f a0 (a1 + (2 : Int32)) h1) fun v8 h5 => (some (.inl (some (.int ((v4 <<< ((16 : Int32) &&& 31)) ||| v8))), h5))))
theorem sF_90 {f : Nat} {a0 : Nat} {a1 : Int32} {h : hp_T} {o : ev_O} (hB : F_90 f a0 a1 h = some o) : rm 90 [.ref a0, .int a1] h o := by
  unfold F_90 at hB
  refine rm_in (L := [.ref a0, .int a1]) (Nat.le_of_ble_eq_true rfl) rfl ?_
  refine rg_p rfl rfl ?_
  refine rg_p rfl rfl ?_
  rcases di_e hB with ⟨v4, h1, z2, hB⟩ | ⟨q3, h1, z2, hB⟩
  · refine rg_call (rg_s9 (n := 2) (as := [.ref a0, .int a1]) (ar := []) rfl (rg_s0 rfl) rfl rfl (Nat.le_of_ble_eq_true rfl) rfl rfl (Nat.le_of_ble_eq_true rfl)) (sF_89 z2) ?_
    refine rg_bi (v := (16 : Int32)) rfl (by decide) ?_
    refine rg_p rfl rfl ?_
    refine rg_p rfl rfl ?_
    refine rg_p rfl rfl ?_
    refine rg_ic (v := (2 : Int32)) rfl (by decide) ?_
    show rg 90 11 _ _ _ _
    refine rg_p rfl rfl ?_
    rcases di_e hB with ⟨v8, h5, z6, hB⟩ | ⟨q7, h5, z6, hB⟩
    · refine rg_call (rg_s9 (n := 2) (as := [.ref a0, .int (a1 + (2 : Int32))]) (ar := []) rfl (rg_s0 rfl) rfl rfl (Nat.le_of_ble_eq_true rfl) rfl rfl (Nat.le_of_ble_eq_true rfl)) (sF_89 z6) ?_
      refine rg_p rfl rfl ?_
      cases hB
      exact rg_ri rfl rfl rfl
    · subst hB
      exact rg_callX (rg_s9 (n := 2) (as := [.ref a0, .int (a1 + (2 : Int32))]) (ar := []) rfl (rg_s0 rfl) rfl rfl (Nat.le_of_ble_eq_true rfl) rfl rfl (Nat.le_of_ble_eq_true rfl)) (sF_89 z6)
  · subst hB
    exact rg_callX (rg_s9 (n := 2) (as := [.ref a0, .int a1]) (ar := []) rfl (rg_s0 rfl) rfl rfl (Nat.le_of_ble_eq_true rfl) rfl rfl (Nat.le_of_ble_eq_true rfl)) (sF_89 z2)
-- 91: RouteHouseModel.putFour([III)V
def F_91 (f : Nat) (a0 : Nat) (a1 : Int32) (a2 : Int32) (h : hp_T) : Option ev_O := (dv (F_88 f a0 a1 ((a2).toUInt32 >>> (((16 : Int32)).toUInt32 &&& Int32.toUInt32 31)).toInt32 h) fun h1 => (dv (F_88 f a0 (a1 + (2 : Int32)) (a2 &&& (65535 : Int32)) h1) fun h4 => (some (.inl none, h4))))
theorem sF_91 {f : Nat} {a0 : Nat} {a1 : Int32} {a2 : Int32} {h : hp_T} {o : ev_O} (hB : F_91 f a0 a1 a2 h = some o) : rm 91 [.ref a0, .int a1, .int a2] h o := by
  unfold F_91 at hB
  refine rm_in (L := [.ref a0, .int a1, .int a2]) (Nat.le_of_ble_eq_true rfl) rfl ?_
  refine rg_p rfl rfl ?_
  refine rg_p rfl rfl ?_
  refine rg_p rfl rfl ?_
  refine rg_bi (v := (16 : Int32)) rfl (by decide) ?_
  refine rg_p rfl rfl ?_
  show rg 91 6 _ _ _ _
  rcases dv_e hB with ⟨h1, z2, hB⟩ | ⟨q3, h1, z2, hB⟩
  · refine rg_call (rg_s9 (n := 3) (as := [.ref a0, .int a1, .int ((a2).toUInt32 >>> (((16 : Int32)).toUInt32 &&& Int32.toUInt32 31)).toInt32]) (ar := []) rfl (rg_s0 rfl) rfl rfl (Nat.le_of_ble_eq_true rfl) rfl rfl (Nat.le_of_ble_eq_true rfl)) (sF_88 z2) ?_
    refine rg_p rfl rfl ?_
    refine rg_p rfl rfl ?_
    refine rg_ic (v := (2 : Int32)) rfl (by decide) ?_
    refine rg_p rfl rfl ?_
    refine rg_p rfl rfl ?_
    show rg 91 14 _ _ _ _
    refine rg_ld (v := (65535 : Int32)) rfl rfl ?_
    refine rg_p rfl rfl ?_
    rcases dv_e hB with ⟨h4, z5, hB⟩ | ⟨q6, h4, z5, hB⟩
    · refine rg_call (rg_s9 (n := 3) (as := [.ref a0, .int (a1 + (2 : Int32)), .int (a2 &&& (65535 : Int32))]) (ar := []) rfl (rg_s0 rfl) rfl rfl (Nat.le_of_ble_eq_true rfl) rfl rfl (Nat.le_of_ble_eq_true rfl)) (sF_88 z5) ?_
      cases hB
      exact rg_rv rfl rfl
    · subst hB
      exact rg_callX (rg_s9 (n := 3) (as := [.ref a0, .int (a1 + (2 : Int32)), .int (a2 &&& (65535 : Int32))]) (ar := []) rfl (rg_s0 rfl) rfl rfl (Nat.le_of_ble_eq_true rfl) rfl rfl (Nat.le_of_ble_eq_true rfl)) (sF_88 z5)
  · subst hB
    exact rg_callX (rg_s9 (n := 3) (as := [.ref a0, .int a1, .int ((a2).toUInt32 >>> (((16 : Int32)).toUInt32 &&& Int32.toUInt32 31)).toInt32]) (ar := []) rfl (rg_s0 rfl) rfl rfl (Nat.le_of_ble_eq_true rfl) rfl rfl (Nat.le_of_ble_eq_true rfl)) (sF_88 z2)
-- 92: RouteHouseModel.sum(I)V
def B_92_27 (f : Nat) (l0 : Nat) (l1 : Int32) (s0 : Int32) (s1 : Nat) (h : hp_T) : Option ev_O := (dg (decide (hp_k h s1 = some (8, 0))) (di (F_75 f s1 s0 (1 : Int32) h) fun v5 h2 => (db (ev_c .eq v5 0) (dg (decide (hp_k h2 l0 = some (8, 0))) (dp (hp_p h2 l0 8) fun r8 => (di (F_87 f r8 (0 : Int32) ((4 : Int32) * l1) (10 : Int32) h2) fun v13 h10 => (dv (F_88 f r8 (10 : Int32) v13 h10) fun h14 => (some (.inl none, h14)))))) (some (.inl none, h2)))))
theorem sB_92_27 (f : Nat) (l0 : Nat) (l1 : Int32) (s0 : Int32) (s1 : Nat) (h : hp_T) (o : ev_O) (hB : B_92_27 f l0 l1 s0 s1 h = some o) : rg 92 27 [.ref l0, .int l1] [.int s0, .ref s1] h o := by
  unfold B_92_27 at hB
  refine rg_ic (v := (1 : Int32)) rfl (by decide) ?_
  obtain ⟨c1, hB⟩ := dg_e hB
  rcases di_e hB with ⟨v5, h2, z3, hB⟩ | ⟨q4, h2, z3, hB⟩
  · refine rg_call (rg_v9 (n := 2) (b := s1) (as := [.ref s1, .int s0, .int (1 : Int32)]) (ar := []) rfl rfl rfl (Nat.le_of_ble_eq_true rfl) rfl rfl (Nat.le_of_ble_eq_true rfl) (of_decide_eq_true c1)) (sF_75 z3) ?_
    rcases db_e hB with ⟨q6, hB⟩ | ⟨q6, hB⟩
    · refine rg_bt (t := 35) (pc' := 34) rfl rfl q6 ?_
      refine rg_p rfl rfl ?_
      obtain ⟨c7, hB⟩ := dg_e hB
      obtain ⟨r8, p9, hB⟩ := dp_e hB
      refine rg_gp rfl rfl rfl (of_decide_eq_true c7) p9 ?_
      refine rg_bi (v := (10 : Int32)) rfl (by decide) ?_
      refine rg_p rfl rfl ?_
      refine rg_gp rfl rfl rfl (of_decide_eq_true c7) p9 ?_
      show rg 92 45 _ _ _ _
      refine rg_ic (v := (0 : Int32)) rfl (by decide) ?_
      refine rg_ic (v := (4 : Int32)) rfl (by decide) ?_
      refine rg_p rfl rfl ?_
      refine rg_p rfl rfl ?_
      refine rg_bi (v := (10 : Int32)) rfl (by decide) ?_
      rcases di_e hB with ⟨v13, h10, z11, hB⟩ | ⟨q12, h10, z11, hB⟩
      · refine rg_call (rg_s9 (n := 4) (as := [.ref r8, .int (0 : Int32), .int ((4 : Int32) * l1), .int (10 : Int32)]) (ar := []) rfl (rg_s0 rfl) rfl rfl (Nat.le_of_ble_eq_true rfl) rfl rfl (Nat.le_of_ble_eq_true rfl)) (sF_87 z11) ?_
        rcases dv_e hB with ⟨h14, z15, hB⟩ | ⟨q16, h14, z15, hB⟩
        · refine rg_call (rg_s9 (n := 3) (as := [.ref r8, .int (10 : Int32), .int v13]) (ar := []) rfl (rg_s0 rfl) rfl rfl (Nat.le_of_ble_eq_true rfl) rfl rfl (Nat.le_of_ble_eq_true rfl)) (sF_88 z15) ?_
          cases hB
          exact rg_rv rfl rfl
        · subst hB
          exact rg_callX (rg_s9 (n := 3) (as := [.ref r8, .int (10 : Int32), .int v13]) (ar := []) rfl (rg_s0 rfl) rfl rfl (Nat.le_of_ble_eq_true rfl) rfl rfl (Nat.le_of_ble_eq_true rfl)) (sF_88 z15)
      · subst hB
        exact rg_callX (rg_s9 (n := 4) (as := [.ref r8, .int (0 : Int32), .int ((4 : Int32) * l1), .int (10 : Int32)]) (ar := []) rfl (rg_s0 rfl) rfl rfl (Nat.le_of_ble_eq_true rfl) rfl rfl (Nat.le_of_ble_eq_true rfl)) (sF_87 z11)
    · refine rg_bf (t := 35) (pc' := 34) rfl rfl q6 ?_
      cases hB
      exact rg_rv rfl rfl
  · subst hB
    exact rg_callX (rg_v9 (n := 2) (b := s1) (as := [.ref s1, .int s0, .int (1 : Int32)]) (ar := []) rfl rfl rfl (Nat.le_of_ble_eq_true rfl) rfl rfl (Nat.le_of_ble_eq_true rfl) (of_decide_eq_true c1)) (sF_75 z3)
def B_92_22 (f : Nat) (l0 : Nat) (l1 : Int32) (s0 : Nat) (h : hp_T) : Option ev_O := (B_92_27 f  l0 l1 (1 : Int32) s0 h)
theorem sB_92_22 (f : Nat) (l0 : Nat) (l1 : Int32) (s0 : Nat) (h : hp_T) (o : ev_O) (hB : B_92_22 f l0 l1 s0 h = some o) : rg 92 22 [.ref l0, .int l1] [.ref s0] h o := by
  unfold B_92_22 at hB
  refine rg_ic (v := (1 : Int32)) rfl (by decide) ?_
  refine rg_p (pc' := 27) rfl rfl ?_
  exact sB_92_27 f  _ _ _ _ h _ hB
def F_92 (f : Nat) (a0 : Nat) (a1 : Int32) (h : hp_T) : Option ev_O := (db (ev_c .lt a1 (5 : Int32)) (B_92_22 f  a0 a1 a0 h) (db (ev_c .gt a1 (15 : Int32)) (B_92_22 f  a0 a1 a0 h) (dg (decide (hp_k h a0 = some (8, 0))) (db (ev_c .le ((4 : Int32) * a1) (hp_z h a0 9)) (B_92_27 f  a0 a1 (0 : Int32) a0 h) (B_92_22 f  a0 a1 a0 h)))))
theorem sF_92 {f : Nat} {a0 : Nat} {a1 : Int32} {h : hp_T} {o : ev_O} (hB : F_92 f a0 a1 h = some o) : rm 92 [.ref a0, .int a1] h o := by
  unfold F_92 at hB
  refine rm_in (L := [.ref a0, .int a1]) (Nat.le_of_ble_eq_true rfl) rfl ?_
  refine rg_p rfl rfl ?_
  refine rg_p rfl rfl ?_
  refine rg_ic (v := (5 : Int32)) rfl (by decide) ?_
  rcases db_e hB with ⟨q1, hB⟩ | ⟨q1, hB⟩
  · refine rg_bt (t := 22) (pc' := 6) rfl rfl q1 ?_
    exact sB_92_22 f  _ _ _ h _ hB
  · refine rg_bf (t := 22) (pc' := 6) rfl rfl q1 ?_
    refine rg_p rfl rfl ?_
    refine rg_bi (v := (15 : Int32)) rfl (by decide) ?_
    rcases db_e hB with ⟨q2, hB⟩ | ⟨q2, hB⟩
    · refine rg_bt (t := 22) (pc' := 12) rfl rfl q2 ?_
      exact sB_92_22 f  _ _ _ h _ hB
    · refine rg_bf (t := 22) (pc' := 12) rfl rfl q2 ?_
      refine rg_ic (v := (4 : Int32)) rfl (by decide) ?_
      refine rg_p rfl rfl ?_
      refine rg_p rfl rfl ?_
      refine rg_p rfl rfl ?_
      obtain ⟨c3, hB⟩ := dg_e hB
      refine rg_gz rfl rfl rfl (of_decide_eq_true c3) ?_
      show rg 92 19 _ _ _ _
      rcases db_e hB with ⟨q4, hB⟩ | ⟨q4, hB⟩
      · refine rg_bt (t := 26) (pc' := 22) rfl rfl q4 ?_
        refine rg_ic (v := (0 : Int32)) rfl (by decide) ?_
        exact sB_92_27 f  _ _ _ _ h _ hB
      · refine rg_bf (t := 26) (pc' := 22) rfl rfl q4 ?_
        exact sB_92_22 f  _ _ _ h _ hB
-- 93: RouteHouseModel.copy(I)I
def B_93_29 (f : Nat) : Nat → Nat → Int32 → Int32 → hp_T → Option ev_O
  | 0, _, _, _, _ => none
  | g + 1, l0, l1, l2, h => (dg (decide (hp_k h l0 = some (8, 0))) (dp (hp_p h l0 16) fun r2 => (dg (aib 64 h r2 l1) (db (ev_c .ge l2 (hp_z h r2 (Int32.toNatClampNeg l1))) (dl (wz h l0 9 (hp_z h r2 (Int32.toNatClampNeg l1))) fun h6 => (dg (decide (hp_k h6 l0 = some (8, 0))) (some (.inl (some (.int (hp_z h6 l0 9))), h6)))) (dp (hp_p h l0 8) fun r9 => (dp (hp_p h l0 14) fun r11 => (dp (hp_p h l0 15) fun r13 => (dg (aib 64 h r13 l1) (dg (aib 64 h r11 ((hp_z h r13 (Int32.toNatClampNeg l1)) + l2)) (dg (aib 64 h r9 l2) (dl (wz h r9 (Int32.toNatClampNeg l2) (hp_z h r11 (Int32.toNatClampNeg ((hp_z h r13 (Int32.toNatClampNeg l1)) + l2)))) fun h18 => ((B_93_29 f g) l0 l1 (l2 + (1 : Int32)) h18))))))))))))
theorem sB_93_29 (f : Nat) : ∀ (g : Nat) (l0 : Nat) (l1 : Int32) (l2 : Int32) (h : hp_T) (o : ev_O), B_93_29 f g l0 l1 l2 h = some o → rg 93 29 [.ref l0, .int l1, .int l2] [] h o := by
  intro g
  induction g with
  | zero =>
    intro l0 l1 l2  h o hB
    rw [B_93_29] at hB
    cases hB
  | succ g ih =>
    intro l0 l1 l2  h o hB
    rw [B_93_29] at hB
    refine rg_p rfl rfl ?_
    refine rg_p rfl rfl ?_
    obtain ⟨c1, hB⟩ := dg_e hB
    obtain ⟨r2, p3, hB⟩ := dp_e hB
    refine rg_gp rfl rfl rfl (of_decide_eq_true c1) p3 ?_
    refine rg_p rfl rfl ?_
    obtain ⟨c4, hB⟩ := dg_e hB
    refine rg_ia rfl (ai_of c4) ?_
    show rg 93 36 _ _ _ _
    rcases db_e hB with ⟨q5, hB⟩ | ⟨q5, hB⟩
    · refine rg_bt (t := 64) (pc' := 39) rfl rfl q5 ?_
      refine rg_p rfl rfl ?_
      refine rg_p rfl rfl ?_
      refine rg_gp rfl rfl rfl (of_decide_eq_true c1) p3 ?_
      refine rg_p rfl rfl ?_
      refine rg_ia rfl (ai_of c4) ?_
      show rg 93 71 _ _ _ _
      obtain ⟨h6, e7, hB⟩ := dl_e hB
      refine rg_pi rfl rfl rfl (of_decide_eq_true c1) e7 ?_
      refine rg_p rfl rfl ?_
      obtain ⟨c8, hB⟩ := dg_e hB
      refine rg_gz rfl rfl rfl (of_decide_eq_true c8) ?_
      cases hB
      exact rg_ri rfl rfl rfl
    · refine rg_bf (t := 64) (pc' := 39) rfl rfl q5 ?_
      refine rg_p rfl rfl ?_
      obtain ⟨r9, p10, hB⟩ := dp_e hB
      refine rg_gp rfl rfl rfl (of_decide_eq_true c1) p10 ?_
      refine rg_p rfl rfl ?_
      refine rg_p rfl rfl ?_
      obtain ⟨r11, p12, hB⟩ := dp_e hB
      refine rg_gp rfl rfl rfl (of_decide_eq_true c1) p12 ?_
      show rg 93 48 _ _ _ _
      refine rg_p rfl rfl ?_
      obtain ⟨r13, p14, hB⟩ := dp_e hB
      refine rg_gp rfl rfl rfl (of_decide_eq_true c1) p14 ?_
      refine rg_p rfl rfl ?_
      obtain ⟨c15, hB⟩ := dg_e hB
      refine rg_ia rfl (ai_of c15) ?_
      refine rg_p rfl rfl ?_
      refine rg_p rfl rfl ?_
      show rg 93 56 _ _ _ _
      obtain ⟨c16, hB⟩ := dg_e hB
      refine rg_ia rfl (ai_of c16) ?_
      obtain ⟨c17, hB⟩ := dg_e hB
      obtain ⟨h18, e19, hB⟩ := dl_e hB
      refine rg_is rfl (ai_of c17) e19 ?_
      refine rg_p (L' := [.ref l0, .int l1, .int (l2 + (1 : Int32))]) rfl rfl ?_
      refine rg_p (pc' := 29) rfl rfl ?_
      exact ih _ _ _ h18 _ hB
def B_93_18 (f : Nat) (l0 : Nat) (l1 : Int32) (s0 : Int32) (s1 : Nat) (h : hp_T) : Option ev_O := (dg (decide (hp_k h s1 = some (8, 0))) (di (F_75 f s1 s0 (1 : Int32) h) fun v5 h2 => (db (ev_c .eq v5 0) (B_93_29 f  f l0 l1 (0 : Int32) h2) (some (.inl (some (.int (0 : Int32))), h2)))))
theorem sB_93_18 (f : Nat) (l0 : Nat) (l1 : Int32) (s0 : Int32) (s1 : Nat) (w2 : Value) (h : hp_T) (o : ev_O) (hB : B_93_18 f l0 l1 s0 s1 h = some o) : rg 93 18 [.ref l0, .int l1, w2] [.int s0, .ref s1] h o := by
  unfold B_93_18 at hB
  refine rg_ic (v := (1 : Int32)) rfl (by decide) ?_
  obtain ⟨c1, hB⟩ := dg_e hB
  rcases di_e hB with ⟨v5, h2, z3, hB⟩ | ⟨q4, h2, z3, hB⟩
  · refine rg_call (rg_v9 (n := 2) (b := s1) (as := [.ref s1, .int s0, .int (1 : Int32)]) (ar := []) rfl rfl rfl (Nat.le_of_ble_eq_true rfl) rfl rfl (Nat.le_of_ble_eq_true rfl) (of_decide_eq_true c1)) (sF_75 z3) ?_
    rcases db_e hB with ⟨q6, hB⟩ | ⟨q6, hB⟩
    · refine rg_bt (t := 27) (pc' := 25) rfl rfl q6 ?_
      refine rg_ic (v := (0 : Int32)) rfl (by decide) ?_
      refine rg_p (L' := [.ref l0, .int l1, .int (0 : Int32)]) rfl rfl ?_
      exact sB_93_29 f  f _ _ _ h2 _ hB
    · refine rg_bf (t := 27) (pc' := 25) rfl rfl q6 ?_
      refine rg_ic (v := (0 : Int32)) rfl (by decide) ?_
      cases hB
      exact rg_ri rfl rfl rfl
  · subst hB
    exact rg_callX (rg_v9 (n := 2) (b := s1) (as := [.ref s1, .int s0, .int (1 : Int32)]) (ar := []) rfl rfl rfl (Nat.le_of_ble_eq_true rfl) rfl rfl (Nat.le_of_ble_eq_true rfl) (of_decide_eq_true c1)) (sF_75 z3)
def B_93_13 (f : Nat) (l0 : Nat) (l1 : Int32) (s0 : Nat) (h : hp_T) : Option ev_O := (B_93_18 f  l0 l1 (1 : Int32) s0 h)
theorem sB_93_13 (f : Nat) (l0 : Nat) (l1 : Int32) (s0 : Nat) (w2 : Value) (h : hp_T) (o : ev_O) (hB : B_93_13 f l0 l1 s0 h = some o) : rg 93 13 [.ref l0, .int l1, w2] [.ref s0] h o := by
  unfold B_93_13 at hB
  refine rg_ic (v := (1 : Int32)) rfl (by decide) ?_
  refine rg_p (pc' := 18) rfl rfl ?_
  exact sB_93_18 f  _ _ _ _ _ h _ hB
def F_93 (f : Nat) (a0 : Nat) (a1 : Int32) (h : hp_T) : Option ev_O := (db (ev_c .lt a1 0) (B_93_13 f  a0 a1 a0 h) (dg (decide (hp_k h a0 = some (8, 0))) (db (ev_c .lt a1 (hp_z h a0 19)) (B_93_18 f  a0 a1 (0 : Int32) a0 h) (B_93_13 f  a0 a1 a0 h))))
theorem sF_93 {f : Nat} {a0 : Nat} {a1 : Int32} {h : hp_T} {o : ev_O} (hB : F_93 f a0 a1 h = some o) : rm 93 [.ref a0, .int a1] h o := by
  unfold F_93 at hB
  refine rm_in (L := [.ref a0, .int a1, .null]) (Nat.le_of_ble_eq_true rfl) rfl ?_
  refine rg_p rfl rfl ?_
  refine rg_p rfl rfl ?_
  rcases db_e hB with ⟨q1, hB⟩ | ⟨q1, hB⟩
  · refine rg_bt (t := 13) (pc' := 5) rfl rfl q1 ?_
    exact sB_93_13 f  _ _ _ _ h _ hB
  · refine rg_bf (t := 13) (pc' := 5) rfl rfl q1 ?_
    refine rg_p rfl rfl ?_
    refine rg_p rfl rfl ?_
    obtain ⟨c2, hB⟩ := dg_e hB
    refine rg_gz rfl rfl rfl (of_decide_eq_true c2) ?_
    rcases db_e hB with ⟨q3, hB⟩ | ⟨q3, hB⟩
    · refine rg_bt (t := 17) (pc' := 13) rfl rfl q3 ?_
      refine rg_ic (v := (0 : Int32)) rfl (by decide) ?_
      exact sB_93_18 f  _ _ _ _ _ h _ hB
    · refine rg_bf (t := 17) (pc' := 13) rfl rfl q3 ?_
      exact sB_93_13 f  _ _ _ _ h _ hB
-- 94: RouteHouseModel.emit(II)V
def B_94_123 (f : Nat) : Nat → Nat → Int32 → hp_T → Option ev_O
  | 0, _, _, _ => none
  | g + 1, l0, l4, h => (dg (decide (hp_k h l0 = some (8, 0))) (db (ev_c .ge l4 (hp_z h l0 13)) (dl (wz h l0 19 ((hp_z h l0 19) + (1 : Int32))) fun h3 => (some (.inl none, h3))) (dp (hp_p h l0 14) fun r5 => (dp (hp_p h l0 15) fun r7 => (dg (aib 64 h r7 (hp_z h l0 19)) (dp (hp_p h l0 11) fun r10 => (dg (aib 64 h r10 l4) (dg (aib 64 h r5 ((hp_z h r7 (Int32.toNatClampNeg (hp_z h l0 19))) + l4)) (dl (wz h r5 (Int32.toNatClampNeg ((hp_z h r7 (Int32.toNatClampNeg (hp_z h l0 19))) + l4)) (hp_z h r10 (Int32.toNatClampNeg l4))) fun h14 => ((B_94_123 f g) l0 (l4 + (1 : Int32)) h14))))))))))
theorem sB_94_123 (f : Nat) : ∀ (g : Nat) (l0 : Nat) (l4 : Int32) (w1 : Value) (w2 : Value) (w3 : Value) (h : hp_T) (o : ev_O), B_94_123 f g l0 l4 h = some o → rg 94 123 [.ref l0, w1, w2, w3, .int l4] [] h o := by
  intro g
  induction g with
  | zero =>
    intro l0 l4 w1 w2 w3 h o hB
    rw [B_94_123] at hB
    cases hB
  | succ g ih =>
    intro l0 l4 w1 w2 w3 h o hB
    rw [B_94_123] at hB
    refine rg_p rfl rfl ?_
    refine rg_p rfl rfl ?_
    obtain ⟨c1, hB⟩ := dg_e hB
    refine rg_gz rfl rfl rfl (of_decide_eq_true c1) ?_
    rcases db_e hB with ⟨q2, hB⟩ | ⟨q2, hB⟩
    · refine rg_bt (t := 162) (pc' := 132) rfl rfl q2 ?_
      refine rg_p rfl rfl ?_
      refine rg_p rfl rfl ?_
      refine rg_gz rfl rfl rfl (of_decide_eq_true c1) ?_
      refine rg_ic (v := (1 : Int32)) rfl (by decide) ?_
      refine rg_p rfl rfl ?_
      show rg 94 169 _ _ _ _
      obtain ⟨h3, e4, hB⟩ := dl_e hB
      refine rg_pi rfl rfl rfl (of_decide_eq_true c1) e4 ?_
      cases hB
      exact rg_rv rfl rfl
    · refine rg_bf (t := 162) (pc' := 132) rfl rfl q2 ?_
      refine rg_p rfl rfl ?_
      obtain ⟨r5, p6, hB⟩ := dp_e hB
      refine rg_gp rfl rfl rfl (of_decide_eq_true c1) p6 ?_
      refine rg_p rfl rfl ?_
      obtain ⟨r7, p8, hB⟩ := dp_e hB
      refine rg_gp rfl rfl rfl (of_decide_eq_true c1) p8 ?_
      refine rg_p rfl rfl ?_
      show rg 94 141 _ _ _ _
      refine rg_gz rfl rfl rfl (of_decide_eq_true c1) ?_
      obtain ⟨c9, hB⟩ := dg_e hB
      refine rg_ia rfl (ai_of c9) ?_
      refine rg_p rfl rfl ?_
      refine rg_p rfl rfl ?_
      refine rg_p rfl rfl ?_
      obtain ⟨r10, p11, hB⟩ := dp_e hB
      refine rg_gp rfl rfl rfl (of_decide_eq_true c1) p11 ?_
      show rg 94 152 _ _ _ _
      refine rg_p rfl rfl ?_
      obtain ⟨c12, hB⟩ := dg_e hB
      refine rg_ia rfl (ai_of c12) ?_
      obtain ⟨c13, hB⟩ := dg_e hB
      obtain ⟨h14, e15, hB⟩ := dl_e hB
      refine rg_is rfl (ai_of c13) e15 ?_
      refine rg_p (L' := [.ref l0, w1, w2, w3, .int (l4 + (1 : Int32))]) rfl rfl ?_
      refine rg_p (pc' := 123) rfl rfl ?_
      exact ih _ _ _ _ _ h14 _ hB
def B_94_86 (f : Nat) (l0 : Nat) (l1 : Int32) (l2 : Int32) (s0 : Int32) (s1 : Int32) (s2 : Nat) (h : hp_T) : Option ev_O := (dg (aib 64 h s2 s1) (dl (wz h s2 (Int32.toNatClampNeg s1) s0) fun h2 => (dg (decide (hp_k h2 l0 = some (8, 0))) (dp (hp_p h2 l0 16) fun r5 => (dg (aib 64 h2 r5 (hp_z h2 l0 19)) (dl (wz h2 r5 (Int32.toNatClampNeg (hp_z h2 l0 19)) (hp_z h2 l0 13)) fun h8 => (dg (decide (hp_k h8 l0 = some (8, 0))) (dp (hp_p h8 l0 17) fun r11 => (dg (aib 64 h8 r11 (hp_z h8 l0 19)) (dl (wz h8 r11 (Int32.toNatClampNeg (hp_z h8 l0 19)) l1) fun h14 => (dg (decide (hp_k h14 l0 = some (8, 0))) (dp (hp_p h14 l0 18) fun r17 => (dg (aib 64 h14 r17 (hp_z h14 l0 19)) (dl (wz h14 r17 (Int32.toNatClampNeg (hp_z h14 l0 19)) l2) fun h20 => (B_94_123 f  f l0 (0 : Int32) h20)))))))))))))))
theorem sB_94_86 (f : Nat) (l0 : Nat) (l1 : Int32) (l2 : Int32) (s0 : Int32) (s1 : Int32) (s2 : Nat) (w3 : Value) (w4 : Value) (h : hp_T) (o : ev_O) (hB : B_94_86 f l0 l1 l2 s0 s1 s2 h = some o) : rg 94 86 [.ref l0, .int l1, .int l2, w3, w4] [.int s0, .int s1, .ref s2] h o := by
  unfold B_94_86 at hB
  obtain ⟨c1, hB⟩ := dg_e hB
  obtain ⟨h2, e3, hB⟩ := dl_e hB
  refine rg_is rfl (ai_of c1) e3 ?_
  refine rg_p rfl rfl ?_
  obtain ⟨c4, hB⟩ := dg_e hB
  obtain ⟨r5, p6, hB⟩ := dp_e hB
  refine rg_gp rfl rfl rfl (of_decide_eq_true c4) p6 ?_
  refine rg_p rfl rfl ?_
  refine rg_gz rfl rfl rfl (of_decide_eq_true c4) ?_
  show rg 94 95 _ _ _ _
  refine rg_p rfl rfl ?_
  refine rg_gz rfl rfl rfl (of_decide_eq_true c4) ?_
  obtain ⟨c7, hB⟩ := dg_e hB
  obtain ⟨h8, e9, hB⟩ := dl_e hB
  refine rg_is rfl (ai_of c7) e9 ?_
  refine rg_p rfl rfl ?_
  obtain ⟨c10, hB⟩ := dg_e hB
  obtain ⟨r11, p12, hB⟩ := dp_e hB
  refine rg_gp rfl rfl rfl (of_decide_eq_true c10) p12 ?_
  refine rg_p rfl rfl ?_
  show rg 94 105 _ _ _ _
  refine rg_gz rfl rfl rfl (of_decide_eq_true c10) ?_
  refine rg_p rfl rfl ?_
  obtain ⟨c13, hB⟩ := dg_e hB
  obtain ⟨h14, e15, hB⟩ := dl_e hB
  refine rg_is rfl (ai_of c13) e15 ?_
  refine rg_p rfl rfl ?_
  obtain ⟨c16, hB⟩ := dg_e hB
  obtain ⟨r17, p18, hB⟩ := dp_e hB
  refine rg_gp rfl rfl rfl (of_decide_eq_true c16) p18 ?_
  refine rg_p rfl rfl ?_
  show rg 94 115 _ _ _ _
  refine rg_gz rfl rfl rfl (of_decide_eq_true c16) ?_
  refine rg_p rfl rfl ?_
  obtain ⟨c19, hB⟩ := dg_e hB
  obtain ⟨h20, e21, hB⟩ := dl_e hB
  refine rg_is rfl (ai_of c19) e21 ?_
  refine rg_ic (v := (0 : Int32)) rfl (by decide) ?_
  refine rg_p (L' := [.ref l0, .int l1, .int l2, w3, .int (0 : Int32)]) rfl rfl ?_
  exact sB_94_123 f  f _ _ _ _ _ h20 _ hB
def F_94 (f : Nat) (a0 : Nat) (a1 : Int32) (a2 : Int32) (h : hp_T) : Option ev_O := (dg (decide (hp_k h a0 = some (8, 0))) (dp (hp_p h a0 11) fun r2 => (dg (aib 64 h r2 (0 : Int32)) (dv (F_88 f r2 (2 : Int32) (hp_z h a0 13) h) fun h5 => (dg (decide (hp_k h5 a0 = some (8, 0))) (dp (hp_p h5 a0 11) fun r9 => (di (F_87 f r9 (0 : Int32) ((4 : Int32) * ((hp_z h r2 (Int32.toNatClampNeg (0 : Int32))) &&& (15 : Int32))) (10 : Int32) h5) fun v14 h11 => (dv (F_88 f r9 (10 : Int32) v14 h11) fun h15 => (dg (decide (hp_k h15 a0 = some (8, 0))) (dp (hp_p h15 a0 15) fun r19 => (db (ev_c .ne (hp_z h15 a0 19) 0) (dg (aib 64 h15 r19 ((hp_z h15 a0 19) - (1 : Int32))) (dp (hp_p h15 a0 16) fun r23 => (dg (aib 64 h15 r23 ((hp_z h15 a0 19) - (1 : Int32))) (B_94_86 f  a0 a1 a2 ((hp_z h15 r19 (Int32.toNatClampNeg ((hp_z h15 a0 19) - (1 : Int32)))) + (hp_z h15 r23 (Int32.toNatClampNeg ((hp_z h15 a0 19) - (1 : Int32))))) (hp_z h15 a0 19) r19 h15)))) (B_94_86 f  a0 a1 a2 (0 : Int32) (hp_z h15 a0 19) r19 h15))))))))))))
theorem sF_94 {f : Nat} {a0 : Nat} {a1 : Int32} {a2 : Int32} {h : hp_T} {o : ev_O} (hB : F_94 f a0 a1 a2 h = some o) : rm 94 [.ref a0, .int a1, .int a2] h o := by
  unfold F_94 at hB
  refine rm_in (L := [.ref a0, .int a1, .int a2, .null, .null]) (Nat.le_of_ble_eq_true rfl) rfl ?_
  refine rg_ic (v := (4 : Int32)) rfl (by decide) ?_
  refine rg_p rfl rfl ?_
  obtain ⟨c1, hB⟩ := dg_e hB
  obtain ⟨r2, p3, hB⟩ := dp_e hB
  refine rg_gp rfl rfl rfl (of_decide_eq_true c1) p3 ?_
  refine rg_ic (v := (0 : Int32)) rfl (by decide) ?_
  obtain ⟨c4, hB⟩ := dg_e hB
  refine rg_ia rfl (ai_of c4) ?_
  show rg 94 7 _ _ _ _
  refine rg_bi (v := (15 : Int32)) rfl (by decide) ?_
  refine rg_p rfl rfl ?_
  refine rg_p rfl rfl ?_
  refine rg_p (L' := [.ref a0, .int a1, .int a2, .int ((4 : Int32) * ((hp_z h r2 (Int32.toNatClampNeg (0 : Int32))) &&& (15 : Int32))), .null]) rfl rfl ?_
  refine rg_p rfl rfl ?_
  refine rg_gp rfl rfl rfl (of_decide_eq_true c1) p3 ?_
  show rg 94 16 _ _ _ _
  refine rg_ic (v := (2 : Int32)) rfl (by decide) ?_
  refine rg_p rfl rfl ?_
  refine rg_gz rfl rfl rfl (of_decide_eq_true c1) ?_
  rcases dv_e hB with ⟨h5, z6, hB⟩ | ⟨q7, h5, z6, hB⟩
  · refine rg_call (rg_s9 (n := 3) (as := [.ref r2, .int (2 : Int32), .int (hp_z h a0 13)]) (ar := []) rfl (rg_s0 rfl) rfl rfl (Nat.le_of_ble_eq_true rfl) rfl rfl (Nat.le_of_ble_eq_true rfl)) (sF_88 z6) ?_
    refine rg_p rfl rfl ?_
    obtain ⟨c8, hB⟩ := dg_e hB
    obtain ⟨r9, p10, hB⟩ := dp_e hB
    refine rg_gp rfl rfl rfl (of_decide_eq_true c8) p10 ?_
    refine rg_bi (v := (10 : Int32)) rfl (by decide) ?_
    refine rg_p rfl rfl ?_
    refine rg_gp rfl rfl rfl (of_decide_eq_true c8) p10 ?_
    show rg 94 34 _ _ _ _
    refine rg_ic (v := (0 : Int32)) rfl (by decide) ?_
    refine rg_p rfl rfl ?_
    refine rg_bi (v := (10 : Int32)) rfl (by decide) ?_
    rcases di_e hB with ⟨v14, h11, z12, hB⟩ | ⟨q13, h11, z12, hB⟩
    · refine rg_call (rg_s9 (n := 4) (as := [.ref r9, .int (0 : Int32), .int ((4 : Int32) * ((hp_z h r2 (Int32.toNatClampNeg (0 : Int32))) &&& (15 : Int32))), .int (10 : Int32)]) (ar := []) rfl (rg_s0 rfl) rfl rfl (Nat.le_of_ble_eq_true rfl) rfl rfl (Nat.le_of_ble_eq_true rfl)) (sF_87 z12) ?_
      rcases dv_e hB with ⟨h15, z16, hB⟩ | ⟨q17, h15, z16, hB⟩
      · refine rg_call (rg_s9 (n := 3) (as := [.ref r9, .int (10 : Int32), .int v14]) (ar := []) rfl (rg_s0 rfl) rfl rfl (Nat.le_of_ble_eq_true rfl) rfl rfl (Nat.le_of_ble_eq_true rfl)) (sF_88 z16) ?_
        refine rg_p rfl rfl ?_
        obtain ⟨c18, hB⟩ := dg_e hB
        obtain ⟨r19, p20, hB⟩ := dp_e hB
        refine rg_gp rfl rfl rfl (of_decide_eq_true c18) p20 ?_
        refine rg_p rfl rfl ?_
        refine rg_gz rfl rfl rfl (of_decide_eq_true c18) ?_
        refine rg_p rfl rfl ?_
        show rg 94 53 _ _ _ _
        refine rg_gz rfl rfl rfl (of_decide_eq_true c18) ?_
        rcases db_e hB with ⟨q21, hB⟩ | ⟨q21, hB⟩
        · refine rg_bt (t := 63) (pc' := 59) rfl rfl q21 ?_
          refine rg_p rfl rfl ?_
          refine rg_gp rfl rfl rfl (of_decide_eq_true c18) p20 ?_
          refine rg_p rfl rfl ?_
          refine rg_gz rfl rfl rfl (of_decide_eq_true c18) ?_
          refine rg_ic (v := (1 : Int32)) rfl (by decide) ?_
          show rg 94 72 _ _ _ _
          refine rg_p rfl rfl ?_
          obtain ⟨c22, hB⟩ := dg_e hB
          refine rg_ia rfl (ai_of c22) ?_
          refine rg_p rfl rfl ?_
          obtain ⟨r23, p24, hB⟩ := dp_e hB
          refine rg_gp rfl rfl rfl (of_decide_eq_true c18) p24 ?_
          refine rg_p rfl rfl ?_
          refine rg_gz rfl rfl rfl (of_decide_eq_true c18) ?_
          show rg 94 82 _ _ _ _
          refine rg_ic (v := (1 : Int32)) rfl (by decide) ?_
          refine rg_p rfl rfl ?_
          obtain ⟨c25, hB⟩ := dg_e hB
          refine rg_ia rfl (ai_of c25) ?_
          refine rg_p rfl rfl ?_
          exact sB_94_86 f  _ _ _ _ _ _ _ _ h15 _ hB
        · refine rg_bf (t := 63) (pc' := 59) rfl rfl q21 ?_
          refine rg_ic (v := (0 : Int32)) rfl (by decide) ?_
          refine rg_p (pc' := 86) rfl rfl ?_
          exact sB_94_86 f  _ _ _ _ _ _ _ _ h15 _ hB
      · subst hB
        exact rg_callX (rg_s9 (n := 3) (as := [.ref r9, .int (10 : Int32), .int v14]) (ar := []) rfl (rg_s0 rfl) rfl rfl (Nat.le_of_ble_eq_true rfl) rfl rfl (Nat.le_of_ble_eq_true rfl)) (sF_88 z16)
    · subst hB
      exact rg_callX (rg_s9 (n := 4) (as := [.ref r9, .int (0 : Int32), .int ((4 : Int32) * ((hp_z h r2 (Int32.toNatClampNeg (0 : Int32))) &&& (15 : Int32))), .int (10 : Int32)]) (ar := []) rfl (rg_s0 rfl) rfl rfl (Nat.le_of_ble_eq_true rfl) rfl rfl (Nat.le_of_ble_eq_true rfl)) (sF_87 z12)
  · subst hB
    exact rg_callX (rg_s9 (n := 3) (as := [.ref r2, .int (2 : Int32), .int (hp_z h a0 13)]) (ar := []) rfl (rg_s0 rfl) rfl rfl (Nat.le_of_ble_eq_true rfl) rfl rfl (Nat.le_of_ble_eq_true rfl)) (sF_88 z6)
-- 96: RouteHouseModel.laterHeader(I)I
def B_96_124 (f : Nat) : Nat → Nat → Int32 → hp_T → Option ev_O
  | 0, _, _, _ => none
  | g + 1, l0, l2, h => (db (ev_c .le (l2 - l2 / (4 : Int32) * (4 : Int32)) 0) (dg (decide (hp_k h l0 = some (8, 0))) (dp (hp_p h l0 11) fun r3 => (dg (aib 64 h r3 (0 : Int32)) (dl (wz h r3 (Int32.toNatClampNeg (0 : Int32)) ((64 : Int32) ||| (l2 / (4 : Int32)))) fun h6 => (some (.inl (some (.int l2)), h6)))))) (dg (decide (hp_k h l0 = some (8, 0))) (dp (hp_p h l0 11) fun r9 => (dg (aib 64 h r9 l2) (dl (wz h r9 (Int32.toNatClampNeg l2) (0 : Int32)) fun h12 => ((B_96_124 f g) l0 (l2 + (1 : Int32)) h12))))))
theorem sB_96_124 (f : Nat) : ∀ (g : Nat) (l0 : Nat) (l2 : Int32) (w1 : Value) (w3 : Value) (w4 : Value) (w5 : Value) (w6 : Value) (h : hp_T) (o : ev_O), B_96_124 f g l0 l2 h = some o → rg 96 124 [.ref l0, w1, .int l2, w3, w4, w5, w6] [] h o := by
  intro g
  induction g with
  | zero =>
    intro l0 l2 w1 w3 w4 w5 w6 h o hB
    rw [B_96_124] at hB
    cases hB
  | succ g ih =>
    intro l0 l2 w1 w3 w4 w5 w6 h o hB
    rw [B_96_124] at hB
    refine rg_p rfl rfl ?_
    refine rg_ic (v := (4 : Int32)) rfl (by decide) ?_
    refine rg_rm rfl (by decide) ?_
    rcases db_e hB with ⟨q1, hB⟩ | ⟨q1, hB⟩
    · refine rg_bt (t := 143) (pc' := 130) rfl rfl q1 ?_
      refine rg_p rfl rfl ?_
      obtain ⟨c2, hB⟩ := dg_e hB
      obtain ⟨r3, p4, hB⟩ := dp_e hB
      refine rg_gp rfl rfl rfl (of_decide_eq_true c2) p4 ?_
      refine rg_ic (v := (0 : Int32)) rfl (by decide) ?_
      refine rg_bi (v := (64 : Int32)) rfl (by decide) ?_
      refine rg_p rfl rfl ?_
      show rg 96 151 _ _ _ _
      refine rg_ic (v := (4 : Int32)) rfl (by decide) ?_
      refine rg_dv rfl (by decide) ?_
      refine rg_p rfl rfl ?_
      obtain ⟨c5, hB⟩ := dg_e hB
      obtain ⟨h6, e7, hB⟩ := dl_e hB
      refine rg_is rfl (ai_of c5) e7 ?_
      refine rg_p rfl rfl ?_
      cases hB
      exact rg_ri rfl rfl rfl
    · refine rg_bf (t := 143) (pc' := 130) rfl rfl q1 ?_
      refine rg_p rfl rfl ?_
      obtain ⟨c8, hB⟩ := dg_e hB
      obtain ⟨r9, p10, hB⟩ := dp_e hB
      refine rg_gp rfl rfl rfl (of_decide_eq_true c8) p10 ?_
      refine rg_p rfl rfl ?_
      refine rg_ic (v := (0 : Int32)) rfl (by decide) ?_
      obtain ⟨c11, hB⟩ := dg_e hB
      obtain ⟨h12, e13, hB⟩ := dl_e hB
      refine rg_is rfl (ai_of c11) e13 ?_
      show rg 96 137 _ _ _ _
      refine rg_p (L' := [.ref l0, w1, .int (l2 + (1 : Int32)), w3, w4, w5, w6]) rfl rfl ?_
      refine rg_p (pc' := 124) rfl rfl ?_
      exact ih _ _ _ _ _ _ _ h12 _ hB
def B_96_114 (f : Nat) (C6 : Nat → Int32 → Int32 → Int32 → hp_T → Option ev_O) (l0 : Nat) (l1 : Int32) (l3 : Int32) (l4 : Int32) (s0 : Int32) (s1 : Int32) (h : hp_T) : Option ev_O := (C6 l0 l1 (s1 + s0) (l3 + l4) h)
theorem sB_96_114 (f : Nat) (C6 : Nat → Int32 → Int32 → Int32 → hp_T → Option ev_O) (hC6 : ∀ (l0 : Nat) (l1 : Int32) (l2 : Int32) (l3 : Int32) (w4 : Value) (w5 : Value) (w6 : Value) (h : hp_T) (o : ev_O), C6 l0 l1 l2 l3 h = some o → rg 96 6 [.ref l0, .int l1, .int l2, .int l3, w4, w5, w6] [] h o) (l0 : Nat) (l1 : Int32) (l3 : Int32) (l4 : Int32) (s0 : Int32) (s1 : Int32) (w2 : Value) (w5 : Value) (w6 : Value) (h : hp_T) (o : ev_O) (hB : B_96_114 f C6 l0 l1 l3 l4 s0 s1 h = some o) : rg 96 114 [.ref l0, .int l1, w2, .int l3, .int l4, w5, w6] [.int s0, .int s1] h o := by
  unfold B_96_114 at hB
  refine rg_p rfl rfl ?_
  refine rg_p (L' := [.ref l0, .int l1, .int (s1 + s0), .int l3, .int l4, w5, w6]) rfl rfl ?_
  refine rg_p rfl rfl ?_
  refine rg_p rfl rfl ?_
  refine rg_p rfl rfl ?_
  show rg 96 120 _ _ _ _
  refine rg_p (L' := [.ref l0, .int l1, .int (s1 + s0), .int (l3 + l4), .int l4, w5, w6]) rfl rfl ?_
  refine rg_p (pc' := 6) rfl rfl ?_
  exact hC6 _ _ _ _ _ _ _ h _ hB
def B_96_102 (f : Nat) (C6 : Nat → Int32 → Int32 → Int32 → hp_T → Option ev_O) (l0 : Nat) (l1 : Int32) (l2 : Int32) (l3 : Int32) (l4 : Int32) (l5 : Int32) (h : hp_T) : Option ev_O := (db (ev_c .eq l5 0) (B_96_114 f C6 l0 l1 l3 l4 (0 : Int32) l2 h) (B_96_114 f C6 l0 l1 l3 l4 l4 l2 h))
theorem sB_96_102 (f : Nat) (C6 : Nat → Int32 → Int32 → Int32 → hp_T → Option ev_O) (hC6 : ∀ (l0 : Nat) (l1 : Int32) (l2 : Int32) (l3 : Int32) (w4 : Value) (w5 : Value) (w6 : Value) (h : hp_T) (o : ev_O), C6 l0 l1 l2 l3 h = some o → rg 96 6 [.ref l0, .int l1, .int l2, .int l3, w4, w5, w6] [] h o) (l0 : Nat) (l1 : Int32) (l2 : Int32) (l3 : Int32) (l4 : Int32) (l5 : Int32) (w6 : Value) (h : hp_T) (o : ev_O) (hB : B_96_102 f C6 l0 l1 l2 l3 l4 l5 h = some o) : rg 96 102 [.ref l0, .int l1, .int l2, .int l3, .int l4, .int l5, w6] [] h o := by
  unfold B_96_102 at hB
  refine rg_p rfl rfl ?_
  refine rg_p rfl rfl ?_
  rcases db_e hB with ⟨q1, hB⟩ | ⟨q1, hB⟩
  · refine rg_bt (t := 113) (pc' := 108) rfl rfl q1 ?_
    refine rg_ic (v := (0 : Int32)) rfl (by decide) ?_
    exact sB_96_114 f C6 hC6 _ _ _ _ _ _ _ _ _ h _ hB
  · refine rg_bf (t := 113) (pc' := 108) rfl rfl q1 ?_
    refine rg_p rfl rfl ?_
    refine rg_p (pc' := 114) rfl rfl ?_
    exact sB_96_114 f C6 hC6 _ _ _ _ _ _ _ _ _ h _ hB
def B_96_66 (f : Nat) (C6 : Nat → Int32 → Int32 → Int32 → hp_T → Option ev_O) : Nat → Nat → Int32 → Int32 → Int32 → Int32 → Int32 → Int32 → hp_T → Option ev_O
  | 0, _, _, _, _, _, _, _, _ => none
  | g + 1, l0, l1, l2, l3, l4, l5, l6, h => (db (ev_c .ge l6 l4) (B_96_102 f C6 l0 l1 l2 l3 l4 l5 h) (db (ev_c .eq l5 0) (B_96_102 f C6 l0 l1 l2 l3 l4 l5 h) (dg (decide (hp_k h l0 = some (8, 0))) (dp (hp_p h l0 11) fun r4 => (dg (aib 64 h r4 (l3 + l6)) (dg (aib 64 h r4 (l2 + l6)) (dl (wz h r4 (Int32.toNatClampNeg (l2 + l6)) (hp_z h r4 (Int32.toNatClampNeg (l3 + l6)))) fun h8 => ((B_96_66 f C6 g) l0 l1 l2 l3 l4 l5 (l6 + (1 : Int32)) h8))))))))
theorem sB_96_66 (f : Nat) (C6 : Nat → Int32 → Int32 → Int32 → hp_T → Option ev_O) (hC6 : ∀ (l0 : Nat) (l1 : Int32) (l2 : Int32) (l3 : Int32) (w4 : Value) (w5 : Value) (w6 : Value) (h : hp_T) (o : ev_O), C6 l0 l1 l2 l3 h = some o → rg 96 6 [.ref l0, .int l1, .int l2, .int l3, w4, w5, w6] [] h o) : ∀ (g : Nat) (l0 : Nat) (l1 : Int32) (l2 : Int32) (l3 : Int32) (l4 : Int32) (l5 : Int32) (l6 : Int32) (h : hp_T) (o : ev_O), B_96_66 f C6 g l0 l1 l2 l3 l4 l5 l6 h = some o → rg 96 66 [.ref l0, .int l1, .int l2, .int l3, .int l4, .int l5, .int l6] [] h o := by
  intro g
  induction g with
  | zero =>
    intro l0 l1 l2 l3 l4 l5 l6  h o hB
    rw [B_96_66] at hB
    cases hB
  | succ g ih =>
    intro l0 l1 l2 l3 l4 l5 l6  h o hB
    rw [B_96_66] at hB
    refine rg_p rfl rfl ?_
    refine rg_p rfl rfl ?_
    rcases db_e hB with ⟨q1, hB⟩ | ⟨q1, hB⟩
    · refine rg_bt (t := 102) (pc' := 73) rfl rfl q1 ?_
      exact sB_96_102 f C6 hC6 _ _ _ _ _ _ _ h _ hB
    · refine rg_bf (t := 102) (pc' := 73) rfl rfl q1 ?_
      refine rg_p rfl rfl ?_
      rcases db_e hB with ⟨q2, hB⟩ | ⟨q2, hB⟩
      · refine rg_bt (t := 102) (pc' := 78) rfl rfl q2 ?_
        exact sB_96_102 f C6 hC6 _ _ _ _ _ _ _ h _ hB
      · refine rg_bf (t := 102) (pc' := 78) rfl rfl q2 ?_
        refine rg_p rfl rfl ?_
        obtain ⟨c3, hB⟩ := dg_e hB
        obtain ⟨r4, p5, hB⟩ := dp_e hB
        refine rg_gp rfl rfl rfl (of_decide_eq_true c3) p5 ?_
        refine rg_p rfl rfl ?_
        refine rg_p rfl rfl ?_
        refine rg_p rfl rfl ?_
        show rg 96 86 _ _ _ _
        refine rg_p rfl rfl ?_
        refine rg_gp rfl rfl rfl (of_decide_eq_true c3) p5 ?_
        refine rg_p rfl rfl ?_
        refine rg_p rfl rfl ?_
        refine rg_p rfl rfl ?_
        obtain ⟨c6, hB⟩ := dg_e hB
        refine rg_ia rfl (ai_of c6) ?_
        show rg 96 95 _ _ _ _
        obtain ⟨c7, hB⟩ := dg_e hB
        obtain ⟨h8, e9, hB⟩ := dl_e hB
        refine rg_is rfl (ai_of c7) e9 ?_
        refine rg_p (L' := [.ref l0, .int l1, .int l2, .int l3, .int l4, .int l5, .int (l6 + (1 : Int32))]) rfl rfl ?_
        refine rg_p (pc' := 66) rfl rfl ?_
        exact ih _ _ _ _ _ _ _ h8 _ hB
def B_96_61 (f : Nat) (C6 : Nat → Int32 → Int32 → Int32 → hp_T → Option ev_O) (l0 : Nat) (l1 : Int32) (l2 : Int32) (l3 : Int32) (l4 : Int32) (s0 : Int32) (h : hp_T) : Option ev_O := (B_96_66 f C6 f l0 l1 l2 l3 l4 s0 (0 : Int32) h)
theorem sB_96_61 (f : Nat) (C6 : Nat → Int32 → Int32 → Int32 → hp_T → Option ev_O) (hC6 : ∀ (l0 : Nat) (l1 : Int32) (l2 : Int32) (l3 : Int32) (w4 : Value) (w5 : Value) (w6 : Value) (h : hp_T) (o : ev_O), C6 l0 l1 l2 l3 h = some o → rg 96 6 [.ref l0, .int l1, .int l2, .int l3, w4, w5, w6] [] h o) (l0 : Nat) (l1 : Int32) (l2 : Int32) (l3 : Int32) (l4 : Int32) (s0 : Int32) (w5 : Value) (w6 : Value) (h : hp_T) (o : ev_O) (hB : B_96_61 f C6 l0 l1 l2 l3 l4 s0 h = some o) : rg 96 61 [.ref l0, .int l1, .int l2, .int l3, .int l4, w5, w6] [.int s0] h o := by
  unfold B_96_61 at hB
  refine rg_p (L' := [.ref l0, .int l1, .int l2, .int l3, .int l4, .int s0, w6]) rfl rfl ?_
  refine rg_ic (v := (0 : Int32)) rfl (by decide) ?_
  refine rg_p (L' := [.ref l0, .int l1, .int l2, .int l3, .int l4, .int s0, .int (0 : Int32)]) rfl rfl ?_
  exact sB_96_66 f C6 hC6 f _ _ _ _ _ _ _ h _ hB
def B_96_42 (f : Nat) (C6 : Nat → Int32 → Int32 → Int32 → hp_T → Option ev_O) (l0 : Nat) (l1 : Int32) (l2 : Int32) (l3 : Int32) (s0 : Int32) (h : hp_T) : Option ev_O := (dg (decide (hp_k h l0 = some (8, 0))) (dp (hp_p h l0 11) fun r2 => (dg (aib 64 h r2 l3) (db (ev_c .lt (hp_z h r2 (Int32.toNatClampNeg l3)) (128 : Int32)) (B_96_61 f C6 l0 l1 l2 l3 s0 (0 : Int32) h) (B_96_61 f C6 l0 l1 l2 l3 s0 (1 : Int32) h)))))
theorem sB_96_42 (f : Nat) (C6 : Nat → Int32 → Int32 → Int32 → hp_T → Option ev_O) (hC6 : ∀ (l0 : Nat) (l1 : Int32) (l2 : Int32) (l3 : Int32) (w4 : Value) (w5 : Value) (w6 : Value) (h : hp_T) (o : ev_O), C6 l0 l1 l2 l3 h = some o → rg 96 6 [.ref l0, .int l1, .int l2, .int l3, w4, w5, w6] [] h o) (l0 : Nat) (l1 : Int32) (l2 : Int32) (l3 : Int32) (s0 : Int32) (w4 : Value) (w5 : Value) (w6 : Value) (h : hp_T) (o : ev_O) (hB : B_96_42 f C6 l0 l1 l2 l3 s0 h = some o) : rg 96 42 [.ref l0, .int l1, .int l2, .int l3, w4, w5, w6] [.int s0] h o := by
  unfold B_96_42 at hB
  refine rg_p (L' := [.ref l0, .int l1, .int l2, .int l3, .int s0, w5, w6]) rfl rfl ?_
  refine rg_p rfl rfl ?_
  obtain ⟨c1, hB⟩ := dg_e hB
  obtain ⟨r2, p3, hB⟩ := dp_e hB
  refine rg_gp rfl rfl rfl (of_decide_eq_true c1) p3 ?_
  refine rg_p rfl rfl ?_
  obtain ⟨c4, hB⟩ := dg_e hB
  refine rg_ia rfl (ai_of c4) ?_
  show rg 96 50 _ _ _ _
  refine rg_si (v := (128 : Int32)) rfl (by decide) ?_
  rcases db_e hB with ⟨q5, hB⟩ | ⟨q5, hB⟩
  · refine rg_bt (t := 60) (pc' := 56) rfl rfl q5 ?_
    refine rg_ic (v := (0 : Int32)) rfl (by decide) ?_
    exact sB_96_61 f C6 hC6 _ _ _ _ _ _ _ _ h _ hB
  · refine rg_bf (t := 60) (pc' := 56) rfl rfl q5 ?_
    refine rg_ic (v := (1 : Int32)) rfl (by decide) ?_
    refine rg_p (pc' := 61) rfl rfl ?_
    exact sB_96_61 f C6 hC6 _ _ _ _ _ _ _ _ h _ hB
def B_96_6 (f : Nat) : Nat → Nat → Int32 → Int32 → Int32 → hp_T → Option ev_O
  | 0, _, _, _, _, _ => none
  | g + 1, l0, l1, l2, l3, h => (db (ev_c .ge l3 l1) (B_96_124 f  f l0 l2 h) (dg (decide (hp_k h l0 = some (8, 0))) (dp (hp_p h l0 11) fun r3 => (dg (aib 64 h r3 l3) (db (ev_c .eq (hp_z h r3 (Int32.toNatClampNeg l3)) 0) (B_96_124 f  f l0 l2 h) (db (ev_c .ne (hp_z h r3 (Int32.toNatClampNeg l3)) (1 : Int32)) (dg (aib 64 h r3 (l3 + (1 : Int32))) (B_96_42 f (B_96_6 f g) l0 l1 l2 l3 (hp_z h r3 (Int32.toNatClampNeg (l3 + (1 : Int32)))) h)) (B_96_42 f (B_96_6 f g) l0 l1 l2 l3 (1 : Int32) h)))))))
theorem sB_96_6 (f : Nat) : ∀ (g : Nat) (l0 : Nat) (l1 : Int32) (l2 : Int32) (l3 : Int32) (w4 : Value) (w5 : Value) (w6 : Value) (h : hp_T) (o : ev_O), B_96_6 f g l0 l1 l2 l3 h = some o → rg 96 6 [.ref l0, .int l1, .int l2, .int l3, w4, w5, w6] [] h o := by
  intro g
  induction g with
  | zero =>
    intro l0 l1 l2 l3 w4 w5 w6 h o hB
    rw [B_96_6] at hB
    cases hB
  | succ g ih =>
    intro l0 l1 l2 l3 w4 w5 w6 h o hB
    rw [B_96_6] at hB
    refine rg_p rfl rfl ?_
    refine rg_p rfl rfl ?_
    rcases db_e hB with ⟨q1, hB⟩ | ⟨q1, hB⟩
    · refine rg_bt (t := 124) (pc' := 11) rfl rfl q1 ?_
      exact sB_96_124 f  f _ _ _ _ _ _ _ h _ hB
    · refine rg_bf (t := 124) (pc' := 11) rfl rfl q1 ?_
      refine rg_p rfl rfl ?_
      obtain ⟨c2, hB⟩ := dg_e hB
      obtain ⟨r3, p4, hB⟩ := dp_e hB
      refine rg_gp rfl rfl rfl (of_decide_eq_true c2) p4 ?_
      refine rg_p rfl rfl ?_
      obtain ⟨c5, hB⟩ := dg_e hB
      refine rg_ia rfl (ai_of c5) ?_
      rcases db_e hB with ⟨q6, hB⟩ | ⟨q6, hB⟩
      · refine rg_bt (t := 124) (pc' := 20) rfl rfl q6 ?_
        exact sB_96_124 f  f _ _ _ _ _ _ _ h _ hB
      · refine rg_bf (t := 124) (pc' := 20) rfl rfl q6 ?_
        refine rg_p rfl rfl ?_
        refine rg_gp rfl rfl rfl (of_decide_eq_true c2) p4 ?_
        refine rg_p rfl rfl ?_
        refine rg_ia rfl (ai_of c5) ?_
        refine rg_ic (v := (1 : Int32)) rfl (by decide) ?_
        show rg 96 27 _ _ _ _
        rcases db_e hB with ⟨q7, hB⟩ | ⟨q7, hB⟩
        · refine rg_bt (t := 34) (pc' := 30) rfl rfl q7 ?_
          refine rg_p rfl rfl ?_
          refine rg_gp rfl rfl rfl (of_decide_eq_true c2) p4 ?_
          refine rg_p rfl rfl ?_
          refine rg_ic (v := (1 : Int32)) rfl (by decide) ?_
          refine rg_p rfl rfl ?_
          show rg 96 41 _ _ _ _
          obtain ⟨c8, hB⟩ := dg_e hB
          refine rg_ia rfl (ai_of c8) ?_
          exact sB_96_42 f (B_96_6 f g) ih _ _ _ _ _ _ _ _ h _ hB
        · refine rg_bf (t := 34) (pc' := 30) rfl rfl q7 ?_
          refine rg_ic (v := (1 : Int32)) rfl (by decide) ?_
          refine rg_p (pc' := 42) rfl rfl ?_
          exact sB_96_42 f (B_96_6 f g) ih _ _ _ _ _ _ _ _ h _ hB
def F_96 (f : Nat) (a0 : Nat) (a1 : Int32) (h : hp_T) : Option ev_O := (B_96_6 f  f a0 a1 (20 : Int32) (20 : Int32) h)
theorem sF_96 {f : Nat} {a0 : Nat} {a1 : Int32} {h : hp_T} {o : ev_O} (hB : F_96 f a0 a1 h = some o) : rm 96 [.ref a0, .int a1] h o := by
  unfold F_96 at hB
  refine rm_in (L := [.ref a0, .int a1, .null, .null, .null, .null, .null]) (Nat.le_of_ble_eq_true rfl) rfl ?_
  refine rg_bi (v := (20 : Int32)) rfl (by decide) ?_
  refine rg_p (L' := [.ref a0, .int a1, .int (20 : Int32), .null, .null, .null, .null]) rfl rfl ?_
  refine rg_bi (v := (20 : Int32)) rfl (by decide) ?_
  refine rg_p (L' := [.ref a0, .int a1, .int (20 : Int32), .int (20 : Int32), .null, .null, .null]) rfl rfl ?_
  exact sB_96_6 f  f _ _ _ _ _ _ _ h _ hB
-- 95: RouteHouseModel.send(II)V
def B_95_289 (f : Nat) (C89 : Nat → Int32 → Int32 → Int32 → Int32 → Int32 → Int32 → hp_T → Option ev_O) (l0 : Nat) (l1 : Int32) (l2 : Int32) (l3 : Int32) (l4 : Int32) (l5 : Int32) (l10 : Int32) (l11 : Int32) (s0 : Int32) (s1 : Int32) (s2 : Int32) (s3 : Nat) (h : hp_T) : Option ev_O := (dv (F_88 f s3 s2 ((s1 ||| s0) ||| (l11 &&& (8191 : Int32))) h) fun h1 => (dg (decide (hp_k h1 l0 = some (8, 0))) (dv (F_94 f l0 l1 l2 h1) fun h5 => (C89 l0 l1 l2 l3 l4 (l5 + l10) (0 : Int32) h5))))
theorem sB_95_289 (f : Nat) (C89 : Nat → Int32 → Int32 → Int32 → Int32 → Int32 → Int32 → hp_T → Option ev_O) (hC89 : ∀ (l0 : Nat) (l1 : Int32) (l2 : Int32) (l3 : Int32) (l4 : Int32) (l5 : Int32) (l6 : Int32) (w7 : Value) (w8 : Value) (w9 : Value) (w10 : Value) (w11 : Value) (h : hp_T) (o : ev_O), C89 l0 l1 l2 l3 l4 l5 l6 h = some o → rg 95 89 [.ref l0, .int l1, .int l2, .int l3, .int l4, .int l5, .int l6, w7, w8, w9, w10, w11] [] h o) (l0 : Nat) (l1 : Int32) (l2 : Int32) (l3 : Int32) (l4 : Int32) (l5 : Int32) (l10 : Int32) (l11 : Int32) (s0 : Int32) (s1 : Int32) (s2 : Int32) (s3 : Nat) (w6 : Value) (w7 : Value) (w8 : Value) (w9 : Value) (h : hp_T) (o : ev_O) (hB : B_95_289 f C89 l0 l1 l2 l3 l4 l5 l10 l11 s0 s1 s2 s3 h = some o) : rg 95 289 [.ref l0, .int l1, .int l2, .int l3, .int l4, .int l5, w6, w7, w8, w9, .int l10, .int l11] [.int s0, .int s1, .int s2, .ref s3] h o := by
  unfold B_95_289 at hB
  refine rg_p rfl rfl ?_
  refine rg_p rfl rfl ?_
  refine rg_si (v := (8191 : Int32)) rfl (by decide) ?_
  refine rg_p rfl rfl ?_
  refine rg_p rfl rfl ?_
  show rg 95 297 _ _ _ _
  rcases dv_e hB with ⟨h1, z2, hB⟩ | ⟨q3, h1, z2, hB⟩
  · refine rg_call (rg_s9 (n := 3) (as := [.ref s3, .int s2, .int ((s1 ||| s0) ||| (l11 &&& (8191 : Int32)))]) (ar := []) rfl (rg_s0 rfl) rfl rfl (Nat.le_of_ble_eq_true rfl) rfl rfl (Nat.le_of_ble_eq_true rfl)) (sF_88 z2) ?_
    refine rg_p rfl rfl ?_
    refine rg_p rfl rfl ?_
    refine rg_p rfl rfl ?_
    obtain ⟨c4, hB⟩ := dg_e hB
    rcases dv_e hB with ⟨h5, z6, hB⟩ | ⟨q7, h5, z6, hB⟩
    · refine rg_call (rg_v9 (n := 2) (b := l0) (as := [.ref l0, .int l1, .int l2]) (ar := []) rfl rfl rfl (Nat.le_of_ble_eq_true rfl) rfl rfl (Nat.le_of_ble_eq_true rfl) (of_decide_eq_true c4)) (sF_94 z6) ?_
      refine rg_p rfl rfl ?_
      refine rg_p rfl rfl ?_
      refine rg_p rfl rfl ?_
      refine rg_p (L' := [.ref l0, .int l1, .int l2, .int l3, .int l4, .int (l5 + l10), w6, w7, w8, w9, .int l10, .int l11]) rfl rfl ?_
      refine rg_ic (v := (0 : Int32)) rfl (by decide) ?_
      show rg 95 314 _ _ _ _
      refine rg_p (L' := [.ref l0, .int l1, .int l2, .int l3, .int l4, .int (l5 + l10), .int (0 : Int32), w7, w8, w9, .int l10, .int l11]) rfl rfl ?_
      refine rg_p (pc' := 89) rfl rfl ?_
      exact hC89 _ _ _ _ _ _ _ _ _ _ _ _ h5 _ hB
    · subst hB
      exact rg_callX (rg_v9 (n := 2) (b := l0) (as := [.ref l0, .int l1, .int l2]) (ar := []) rfl rfl rfl (Nat.le_of_ble_eq_true rfl) rfl rfl (Nat.le_of_ble_eq_true rfl) (of_decide_eq_true c4)) (sF_94 z6)
  · subst hB
    exact rg_callX (rg_s9 (n := 3) (as := [.ref s3, .int s2, .int ((s1 ||| s0) ||| (l11 &&& (8191 : Int32)))]) (ar := []) rfl (rg_s0 rfl) rfl rfl (Nat.le_of_ble_eq_true rfl) rfl rfl (Nat.le_of_ble_eq_true rfl)) (sF_88 z2)
def B_95_203 (f : Nat) (C89 : Nat → Int32 → Int32 → Int32 → Int32 → Int32 → Int32 → hp_T → Option ev_O) : Nat → Nat → Int32 → Int32 → Int32 → Int32 → Int32 → Int32 → Int32 → Int32 → Int32 → hp_T → Option ev_O
  | 0, _, _, _, _, _, _, _, _, _, _, _ => none
  | g + 1, l0, l1, l2, l3, l4, l5, l7, l9, l10, l11, h => (db (ev_c .ge l11 l10) (dg (decide (hp_k h l0 = some (8, 0))) (dl (wz h l0 13 (l7 + l10)) fun h3 => (dg (decide (hp_k h3 l0 = some (8, 0))) (dp (hp_p h3 l0 11) fun r6 => (db (ev_c .eq l9 0) (B_95_289 f C89 l0 l1 l2 l3 l4 l5 l10 ((l4 &&& (8191 : Int32)) + ((l5 - l3) / (8 : Int32))) (8192 : Int32) (l4 &&& (49152 : Int32)) (6 : Int32) r6 h3) (B_95_289 f C89 l0 l1 l2 l3 l4 l5 l10 ((l4 &&& (8191 : Int32)) + ((l5 - l3) / (8 : Int32))) (l4 &&& (8192 : Int32)) (l4 &&& (49152 : Int32)) (6 : Int32) r6 h3)))))) (dg (decide (hp_k h l0 = some (8, 0))) (dp (hp_p h l0 11) fun r10 => (dp (hp_p h l0 10) fun r12 => (dg (aib 64 h r12 (l5 + l11)) (dg (aib 64 h r10 (l7 + l11)) (dl (wz h r10 (Int32.toNatClampNeg (l7 + l11)) (hp_z h r12 (Int32.toNatClampNeg (l5 + l11)))) fun h16 => ((B_95_203 f C89 g) l0 l1 l2 l3 l4 l5 l7 l9 l10 (l11 + (1 : Int32)) h16))))))))
theorem sB_95_203 (f : Nat) (C89 : Nat → Int32 → Int32 → Int32 → Int32 → Int32 → Int32 → hp_T → Option ev_O) (hC89 : ∀ (l0 : Nat) (l1 : Int32) (l2 : Int32) (l3 : Int32) (l4 : Int32) (l5 : Int32) (l6 : Int32) (w7 : Value) (w8 : Value) (w9 : Value) (w10 : Value) (w11 : Value) (h : hp_T) (o : ev_O), C89 l0 l1 l2 l3 l4 l5 l6 h = some o → rg 95 89 [.ref l0, .int l1, .int l2, .int l3, .int l4, .int l5, .int l6, w7, w8, w9, w10, w11] [] h o) : ∀ (g : Nat) (l0 : Nat) (l1 : Int32) (l2 : Int32) (l3 : Int32) (l4 : Int32) (l5 : Int32) (l7 : Int32) (l9 : Int32) (l10 : Int32) (l11 : Int32) (w6 : Value) (w8 : Value) (h : hp_T) (o : ev_O), B_95_203 f C89 g l0 l1 l2 l3 l4 l5 l7 l9 l10 l11 h = some o → rg 95 203 [.ref l0, .int l1, .int l2, .int l3, .int l4, .int l5, w6, .int l7, w8, .int l9, .int l10, .int l11] [] h o := by
  intro g
  induction g with
  | zero =>
    intro l0 l1 l2 l3 l4 l5 l7 l9 l10 l11 w6 w8 h o hB
    rw [B_95_203] at hB
    cases hB
  | succ g ih =>
    intro l0 l1 l2 l3 l4 l5 l7 l9 l10 l11 w6 w8 h o hB
    rw [B_95_203] at hB
    refine rg_p rfl rfl ?_
    refine rg_p rfl rfl ?_
    rcases db_e hB with ⟨q1, hB⟩ | ⟨q1, hB⟩
    · refine rg_bt (t := 236) (pc' := 210) rfl rfl q1 ?_
      refine rg_p rfl rfl ?_
      refine rg_p rfl rfl ?_
      refine rg_p rfl rfl ?_
      refine rg_p rfl rfl ?_
      obtain ⟨c2, hB⟩ := dg_e hB
      obtain ⟨h3, e4, hB⟩ := dl_e hB
      refine rg_pi rfl rfl rfl (of_decide_eq_true c2) e4 ?_
      show rg 95 245 _ _ _ _
      refine rg_p rfl rfl ?_
      refine rg_si (v := (8191 : Int32)) rfl (by decide) ?_
      refine rg_p rfl rfl ?_
      refine rg_p rfl rfl ?_
      refine rg_p rfl rfl ?_
      refine rg_p rfl rfl ?_
      show rg 95 255 _ _ _ _
      refine rg_bi (v := (8 : Int32)) rfl (by decide) ?_
      refine rg_dv rfl (by decide) ?_
      refine rg_p rfl rfl ?_
      refine rg_p (L' := [.ref l0, .int l1, .int l2, .int l3, .int l4, .int l5, w6, .int l7, w8, .int l9, .int l10, .int ((l4 &&& (8191 : Int32)) + ((l5 - l3) / (8 : Int32)))]) rfl rfl ?_
      refine rg_p rfl rfl ?_
      obtain ⟨c5, hB⟩ := dg_e hB
      obtain ⟨r6, p7, hB⟩ := dp_e hB
      refine rg_gp rfl rfl rfl (of_decide_eq_true c5) p7 ?_
      show rg 95 265 _ _ _ _
      refine rg_bi (v := (6 : Int32)) rfl (by decide) ?_
      refine rg_p rfl rfl ?_
      refine rg_ld (v := (49152 : Int32)) rfl rfl ?_
      refine rg_p rfl rfl ?_
      refine rg_p rfl rfl ?_
      rcases db_e hB with ⟨q8, hB⟩ | ⟨q8, hB⟩
      · refine rg_bt (t := 286) (pc' := 277) rfl rfl q8 ?_
        refine rg_si (v := (8192 : Int32)) rfl (by decide) ?_
        exact sB_95_289 f C89 hC89 _ _ _ _ _ _ _ _ _ _ _ _ _ _ _ _ h3 _ hB
      · refine rg_bf (t := 286) (pc' := 277) rfl rfl q8 ?_
        refine rg_p rfl rfl ?_
        refine rg_si (v := (8192 : Int32)) rfl (by decide) ?_
        refine rg_p rfl rfl ?_
        refine rg_p (pc' := 289) rfl rfl ?_
        exact sB_95_289 f C89 hC89 _ _ _ _ _ _ _ _ _ _ _ _ _ _ _ _ h3 _ hB
    · refine rg_bf (t := 236) (pc' := 210) rfl rfl q1 ?_
      refine rg_p rfl rfl ?_
      obtain ⟨c9, hB⟩ := dg_e hB
      obtain ⟨r10, p11, hB⟩ := dp_e hB
      refine rg_gp rfl rfl rfl (of_decide_eq_true c9) p11 ?_
      refine rg_p rfl rfl ?_
      refine rg_p rfl rfl ?_
      refine rg_p rfl rfl ?_
      show rg 95 219 _ _ _ _
      refine rg_p rfl rfl ?_
      obtain ⟨r12, p13, hB⟩ := dp_e hB
      refine rg_gp rfl rfl rfl (of_decide_eq_true c9) p13 ?_
      refine rg_p rfl rfl ?_
      refine rg_p rfl rfl ?_
      refine rg_p rfl rfl ?_
      obtain ⟨c14, hB⟩ := dg_e hB
      refine rg_ia rfl (ai_of c14) ?_
      show rg 95 229 _ _ _ _
      obtain ⟨c15, hB⟩ := dg_e hB
      obtain ⟨h16, e17, hB⟩ := dl_e hB
      refine rg_is rfl (ai_of c15) e17 ?_
      refine rg_p (L' := [.ref l0, .int l1, .int l2, .int l3, .int l4, .int l5, w6, .int l7, w8, .int l9, .int l10, .int (l11 + (1 : Int32))]) rfl rfl ?_
      refine rg_p (pc' := 203) rfl rfl ?_
      exact ih _ _ _ _ _ _ _ _ _ _ _ _ h16 _ hB
def B_95_198 (f : Nat) (C89 : Nat → Int32 → Int32 → Int32 → Int32 → Int32 → Int32 → hp_T → Option ev_O) (l0 : Nat) (l1 : Int32) (l2 : Int32) (l3 : Int32) (l4 : Int32) (l5 : Int32) (l7 : Int32) (l9 : Int32) (s0 : Int32) (h : hp_T) : Option ev_O := (B_95_203 f C89 f l0 l1 l2 l3 l4 l5 l7 l9 s0 (0 : Int32) h)
theorem sB_95_198 (f : Nat) (C89 : Nat → Int32 → Int32 → Int32 → Int32 → Int32 → Int32 → hp_T → Option ev_O) (hC89 : ∀ (l0 : Nat) (l1 : Int32) (l2 : Int32) (l3 : Int32) (l4 : Int32) (l5 : Int32) (l6 : Int32) (w7 : Value) (w8 : Value) (w9 : Value) (w10 : Value) (w11 : Value) (h : hp_T) (o : ev_O), C89 l0 l1 l2 l3 l4 l5 l6 h = some o → rg 95 89 [.ref l0, .int l1, .int l2, .int l3, .int l4, .int l5, .int l6, w7, w8, w9, w10, w11] [] h o) (l0 : Nat) (l1 : Int32) (l2 : Int32) (l3 : Int32) (l4 : Int32) (l5 : Int32) (l7 : Int32) (l9 : Int32) (s0 : Int32) (w6 : Value) (w8 : Value) (w10 : Value) (w11 : Value) (h : hp_T) (o : ev_O) (hB : B_95_198 f C89 l0 l1 l2 l3 l4 l5 l7 l9 s0 h = some o) : rg 95 198 [.ref l0, .int l1, .int l2, .int l3, .int l4, .int l5, w6, .int l7, w8, .int l9, w10, w11] [.int s0] h o := by
  unfold B_95_198 at hB
  refine rg_p (L' := [.ref l0, .int l1, .int l2, .int l3, .int l4, .int l5, w6, .int l7, w8, .int l9, .int s0, w11]) rfl rfl ?_
  refine rg_ic (v := (0 : Int32)) rfl (by decide) ?_
  refine rg_p (L' := [.ref l0, .int l1, .int l2, .int l3, .int l4, .int l5, w6, .int l7, w8, .int l9, .int s0, .int (0 : Int32)]) rfl rfl ?_
  exact sB_95_203 f C89 hC89 f _ _ _ _ _ _ _ _ _ _ _ _ h _ hB
def B_95_171 (f : Nat) (C89 : Nat → Int32 → Int32 → Int32 → Int32 → Int32 → Int32 → hp_T → Option ev_O) (l0 : Nat) (l1 : Int32) (l2 : Int32) (l3 : Int32) (l4 : Int32) (l5 : Int32) (l7 : Int32) (l8 : Int32) (s0 : Int32) (h : hp_T) : Option ev_O := (db (ev_c .eq s0 0) (dg (decide (hp_k h l0 = some (8, 0))) (dp (hp_p h l0 1) fun r3 => (dg (aib 64 h r3 l1) (B_95_198 f C89 l0 l1 l2 l3 l4 l5 l7 s0 ((((hp_z h r3 (Int32.toNatClampNeg l1)) - l7) / (8 : Int32)) * (8 : Int32)) h)))) (B_95_198 f C89 l0 l1 l2 l3 l4 l5 l7 s0 l8 h))
theorem sB_95_171 (f : Nat) (C89 : Nat → Int32 → Int32 → Int32 → Int32 → Int32 → Int32 → hp_T → Option ev_O) (hC89 : ∀ (l0 : Nat) (l1 : Int32) (l2 : Int32) (l3 : Int32) (l4 : Int32) (l5 : Int32) (l6 : Int32) (w7 : Value) (w8 : Value) (w9 : Value) (w10 : Value) (w11 : Value) (h : hp_T) (o : ev_O), C89 l0 l1 l2 l3 l4 l5 l6 h = some o → rg 95 89 [.ref l0, .int l1, .int l2, .int l3, .int l4, .int l5, .int l6, w7, w8, w9, w10, w11] [] h o) (l0 : Nat) (l1 : Int32) (l2 : Int32) (l3 : Int32) (l4 : Int32) (l5 : Int32) (l7 : Int32) (l8 : Int32) (s0 : Int32) (w6 : Value) (w9 : Value) (w10 : Value) (w11 : Value) (h : hp_T) (o : ev_O) (hB : B_95_171 f C89 l0 l1 l2 l3 l4 l5 l7 l8 s0 h = some o) : rg 95 171 [.ref l0, .int l1, .int l2, .int l3, .int l4, .int l5, w6, .int l7, .int l8, w9, w10, w11] [.int s0] h o := by
  unfold B_95_171 at hB
  refine rg_p (L' := [.ref l0, .int l1, .int l2, .int l3, .int l4, .int l5, w6, .int l7, .int l8, .int s0, w10, w11]) rfl rfl ?_
  refine rg_p rfl rfl ?_
  rcases db_e hB with ⟨q1, hB⟩ | ⟨q1, hB⟩
  · refine rg_bt (t := 183) (pc' := 178) rfl rfl q1 ?_
    refine rg_p rfl rfl ?_
    obtain ⟨c2, hB⟩ := dg_e hB
    obtain ⟨r3, p4, hB⟩ := dp_e hB
    refine rg_gp rfl rfl rfl (of_decide_eq_true c2) p4 ?_
    refine rg_p rfl rfl ?_
    obtain ⟨c5, hB⟩ := dg_e hB
    refine rg_ia rfl (ai_of c5) ?_
    refine rg_p rfl rfl ?_
    show rg 95 191 _ _ _ _
    refine rg_p rfl rfl ?_
    refine rg_bi (v := (8 : Int32)) rfl (by decide) ?_
    refine rg_dv rfl (by decide) ?_
    refine rg_bi (v := (8 : Int32)) rfl (by decide) ?_
    refine rg_p rfl rfl ?_
    exact sB_95_198 f C89 hC89 _ _ _ _ _ _ _ _ _ _ _ _ _ h _ hB
  · refine rg_bf (t := 183) (pc' := 178) rfl rfl q1 ?_
    refine rg_p rfl rfl ?_
    refine rg_p (pc' := 198) rfl rfl ?_
    exact sB_95_198 f C89 hC89 _ _ _ _ _ _ _ _ _ _ _ _ _ h _ hB
def B_95_141 (f : Nat) (C89 : Nat → Int32 → Int32 → Int32 → Int32 → Int32 → Int32 → hp_T → Option ev_O) (l0 : Nat) (l1 : Int32) (l2 : Int32) (l3 : Int32) (l4 : Int32) (l5 : Int32) (s0 : Int32) (h : hp_T) : Option ev_O := (dg (decide (hp_k h l0 = some (8, 0))) (dp (hp_p h l0 1) fun r2 => (dg (aib 64 h r2 l1) (db (ev_c .gt (s0 + ((hp_z h l0 12) - l5)) (hp_z h r2 (Int32.toNatClampNeg l1))) (B_95_171 f C89 l0 l1 l2 l3 l4 l5 s0 ((hp_z h l0 12) - l5) (0 : Int32) h) (B_95_171 f C89 l0 l1 l2 l3 l4 l5 s0 ((hp_z h l0 12) - l5) (1 : Int32) h)))))
theorem sB_95_141 (f : Nat) (C89 : Nat → Int32 → Int32 → Int32 → Int32 → Int32 → Int32 → hp_T → Option ev_O) (hC89 : ∀ (l0 : Nat) (l1 : Int32) (l2 : Int32) (l3 : Int32) (l4 : Int32) (l5 : Int32) (l6 : Int32) (w7 : Value) (w8 : Value) (w9 : Value) (w10 : Value) (w11 : Value) (h : hp_T) (o : ev_O), C89 l0 l1 l2 l3 l4 l5 l6 h = some o → rg 95 89 [.ref l0, .int l1, .int l2, .int l3, .int l4, .int l5, .int l6, w7, w8, w9, w10, w11] [] h o) (l0 : Nat) (l1 : Int32) (l2 : Int32) (l3 : Int32) (l4 : Int32) (l5 : Int32) (s0 : Int32) (w6 : Value) (w7 : Value) (w8 : Value) (w9 : Value) (w10 : Value) (w11 : Value) (h : hp_T) (o : ev_O) (hB : B_95_141 f C89 l0 l1 l2 l3 l4 l5 s0 h = some o) : rg 95 141 [.ref l0, .int l1, .int l2, .int l3, .int l4, .int l5, w6, w7, w8, w9, w10, w11] [.int s0] h o := by
  unfold B_95_141 at hB
  refine rg_p (L' := [.ref l0, .int l1, .int l2, .int l3, .int l4, .int l5, w6, .int s0, w8, w9, w10, w11]) rfl rfl ?_
  refine rg_p rfl rfl ?_
  obtain ⟨c1, hB⟩ := dg_e hB
  refine rg_gz rfl rfl rfl (of_decide_eq_true c1) ?_
  refine rg_p rfl rfl ?_
  refine rg_p rfl rfl ?_
  show rg 95 150 _ _ _ _
  refine rg_p (L' := [.ref l0, .int l1, .int l2, .int l3, .int l4, .int l5, w6, .int s0, .int ((hp_z h l0 12) - l5), w9, w10, w11]) rfl rfl ?_
  refine rg_p rfl rfl ?_
  refine rg_p rfl rfl ?_
  refine rg_p rfl rfl ?_
  refine rg_p rfl rfl ?_
  obtain ⟨r2, p3, hB⟩ := dp_e hB
  refine rg_gp rfl rfl rfl (of_decide_eq_true c1) p3 ?_
  show rg 95 161 _ _ _ _
  refine rg_p rfl rfl ?_
  obtain ⟨c4, hB⟩ := dg_e hB
  refine rg_ia rfl (ai_of c4) ?_
  rcases db_e hB with ⟨q5, hB⟩ | ⟨q5, hB⟩
  · refine rg_bt (t := 170) (pc' := 166) rfl rfl q5 ?_
    refine rg_ic (v := (0 : Int32)) rfl (by decide) ?_
    exact sB_95_171 f C89 hC89 _ _ _ _ _ _ _ _ _ _ _ _ _ h _ hB
  · refine rg_bf (t := 170) (pc' := 166) rfl rfl q5 ?_
    refine rg_ic (v := (1 : Int32)) rfl (by decide) ?_
    refine rg_p (pc' := 171) rfl rfl ?_
    exact sB_95_171 f C89 hC89 _ _ _ _ _ _ _ _ _ _ _ _ _ h _ hB
def B_95_101 (f : Nat) (C89 : Nat → Int32 → Int32 → Int32 → Int32 → Int32 → Int32 → hp_T → Option ev_O) : Nat → Nat → Int32 → Int32 → Int32 → Int32 → Int32 → Int32 → Int32 → hp_T → Option ev_O
  | 0, _, _, _, _, _, _, _, _, _ => none
  | g + 1, l0, l1, l2, l3, l4, l5, l6, l7, h => (db (ev_c .ge l7 l3) (db (ev_c .eq l6 0) (dg (decide (hp_k h l0 = some (8, 0))) (di (F_96 f l0 l3 h) fun v7 h4 => (B_95_141 f C89 l0 l1 l2 l3 l4 l5 v7 h4))) (B_95_141 f C89 l0 l1 l2 l3 l4 l5 l3 h)) (dg (decide (hp_k h l0 = some (8, 0))) (dp (hp_p h l0 11) fun r9 => (dp (hp_p h l0 10) fun r11 => (dg (aib 64 h r11 l7) (dg (aib 64 h r9 l7) (dl (wz h r9 (Int32.toNatClampNeg l7) (hp_z h r11 (Int32.toNatClampNeg l7))) fun h15 => ((B_95_101 f C89 g) l0 l1 l2 l3 l4 l5 l6 (l7 + (1 : Int32)) h15))))))))
theorem sB_95_101 (f : Nat) (C89 : Nat → Int32 → Int32 → Int32 → Int32 → Int32 → Int32 → hp_T → Option ev_O) (hC89 : ∀ (l0 : Nat) (l1 : Int32) (l2 : Int32) (l3 : Int32) (l4 : Int32) (l5 : Int32) (l6 : Int32) (w7 : Value) (w8 : Value) (w9 : Value) (w10 : Value) (w11 : Value) (h : hp_T) (o : ev_O), C89 l0 l1 l2 l3 l4 l5 l6 h = some o → rg 95 89 [.ref l0, .int l1, .int l2, .int l3, .int l4, .int l5, .int l6, w7, w8, w9, w10, w11] [] h o) : ∀ (g : Nat) (l0 : Nat) (l1 : Int32) (l2 : Int32) (l3 : Int32) (l4 : Int32) (l5 : Int32) (l6 : Int32) (l7 : Int32) (w8 : Value) (w9 : Value) (w10 : Value) (w11 : Value) (h : hp_T) (o : ev_O), B_95_101 f C89 g l0 l1 l2 l3 l4 l5 l6 l7 h = some o → rg 95 101 [.ref l0, .int l1, .int l2, .int l3, .int l4, .int l5, .int l6, .int l7, w8, w9, w10, w11] [] h o := by
  intro g
  induction g with
  | zero =>
    intro l0 l1 l2 l3 l4 l5 l6 l7 w8 w9 w10 w11 h o hB
    rw [B_95_101] at hB
    cases hB
  | succ g ih =>
    intro l0 l1 l2 l3 l4 l5 l6 l7 w8 w9 w10 w11 h o hB
    rw [B_95_101] at hB
    refine rg_p rfl rfl ?_
    refine rg_p rfl rfl ?_
    rcases db_e hB with ⟨q1, hB⟩ | ⟨q1, hB⟩
    · refine rg_bt (t := 127) (pc' := 107) rfl rfl q1 ?_
      refine rg_p rfl rfl ?_
      rcases db_e hB with ⟨q2, hB⟩ | ⟨q2, hB⟩
      · refine rg_bt (t := 136) (pc' := 132) rfl rfl q2 ?_
        refine rg_p rfl rfl ?_
        refine rg_p rfl rfl ?_
        obtain ⟨c3, hB⟩ := dg_e hB
        rcases di_e hB with ⟨v7, h4, z5, hB⟩ | ⟨q6, h4, z5, hB⟩
        · refine rg_call (rg_v9 (n := 1) (b := l0) (as := [.ref l0, .int l3]) (ar := []) rfl rfl rfl (Nat.le_of_ble_eq_true rfl) rfl rfl (Nat.le_of_ble_eq_true rfl) (of_decide_eq_true c3)) (sF_96 z5) ?_
          exact sB_95_141 f C89 hC89 _ _ _ _ _ _ _ _ _ _ _ _ _ h4 _ hB
        · subst hB
          exact rg_callX (rg_v9 (n := 1) (b := l0) (as := [.ref l0, .int l3]) (ar := []) rfl rfl rfl (Nat.le_of_ble_eq_true rfl) rfl rfl (Nat.le_of_ble_eq_true rfl) (of_decide_eq_true c3)) (sF_96 z5)
      · refine rg_bf (t := 136) (pc' := 132) rfl rfl q2 ?_
        refine rg_p rfl rfl ?_
        refine rg_p (pc' := 141) rfl rfl ?_
        exact sB_95_141 f C89 hC89 _ _ _ _ _ _ _ _ _ _ _ _ _ h _ hB
    · refine rg_bf (t := 127) (pc' := 107) rfl rfl q1 ?_
      refine rg_p rfl rfl ?_
      obtain ⟨c8, hB⟩ := dg_e hB
      obtain ⟨r9, p10, hB⟩ := dp_e hB
      refine rg_gp rfl rfl rfl (of_decide_eq_true c8) p10 ?_
      refine rg_p rfl rfl ?_
      refine rg_p rfl rfl ?_
      obtain ⟨r11, p12, hB⟩ := dp_e hB
      refine rg_gp rfl rfl rfl (of_decide_eq_true c8) p12 ?_
      show rg 95 117 _ _ _ _
      refine rg_p rfl rfl ?_
      obtain ⟨c13, hB⟩ := dg_e hB
      refine rg_ia rfl (ai_of c13) ?_
      obtain ⟨c14, hB⟩ := dg_e hB
      obtain ⟨h15, e16, hB⟩ := dl_e hB
      refine rg_is rfl (ai_of c14) e16 ?_
      refine rg_p (L' := [.ref l0, .int l1, .int l2, .int l3, .int l4, .int l5, .int l6, .int (l7 + (1 : Int32)), w8, w9, w10, w11]) rfl rfl ?_
      refine rg_p (pc' := 101) rfl rfl ?_
      exact ih _ _ _ _ _ _ _ _ _ _ _ _ h15 _ hB
def B_95_89 (f : Nat) : Nat → Nat → Int32 → Int32 → Int32 → Int32 → Int32 → Int32 → hp_T → Option ev_O
  | 0, _, _, _, _, _, _, _, _ => none
  | g + 1, l0, l1, l2, l3, l4, l5, l6, h => (dg (decide (hp_k h l0 = some (8, 0))) (db (ev_c .ge l5 (hp_z h l0 12)) (some (.inl none, h)) (B_95_101 f (B_95_89 f g) f l0 l1 l2 l3 l4 l5 l6 (0 : Int32) h)))
theorem sB_95_89 (f : Nat) : ∀ (g : Nat) (l0 : Nat) (l1 : Int32) (l2 : Int32) (l3 : Int32) (l4 : Int32) (l5 : Int32) (l6 : Int32) (w7 : Value) (w8 : Value) (w9 : Value) (w10 : Value) (w11 : Value) (h : hp_T) (o : ev_O), B_95_89 f g l0 l1 l2 l3 l4 l5 l6 h = some o → rg 95 89 [.ref l0, .int l1, .int l2, .int l3, .int l4, .int l5, .int l6, w7, w8, w9, w10, w11] [] h o := by
  intro g
  induction g with
  | zero =>
    intro l0 l1 l2 l3 l4 l5 l6 w7 w8 w9 w10 w11 h o hB
    rw [B_95_89] at hB
    cases hB
  | succ g ih =>
    intro l0 l1 l2 l3 l4 l5 l6 w7 w8 w9 w10 w11 h o hB
    rw [B_95_89] at hB
    refine rg_p rfl rfl ?_
    refine rg_p rfl rfl ?_
    obtain ⟨c1, hB⟩ := dg_e hB
    refine rg_gz rfl rfl rfl (of_decide_eq_true c1) ?_
    rcases db_e hB with ⟨q2, hB⟩ | ⟨q2, hB⟩
    · refine rg_bt (t := 319) (pc' := 98) rfl rfl q2 ?_
      cases hB
      exact rg_rv rfl rfl
    · refine rg_bf (t := 319) (pc' := 98) rfl rfl q2 ?_
      refine rg_ic (v := (0 : Int32)) rfl (by decide) ?_
      refine rg_p (L' := [.ref l0, .int l1, .int l2, .int l3, .int l4, .int l5, .int l6, .int (0 : Int32), w8, w9, w10, w11]) rfl rfl ?_
      exact sB_95_101 f (B_95_89 f g) ih f _ _ _ _ _ _ _ _ _ _ _ _ h _ hB
def B_95_28 (f : Nat) : Nat → Nat → Int32 → Int32 → Int32 → hp_T → Option ev_O
  | 0, _, _, _, _, _ => none
  | g + 1, l0, l1, l2, l4, h => (dg (decide (hp_k h l0 = some (8, 0))) (db (ev_c .ge l4 (hp_z h l0 12)) (dl (wz h l0 13 (hp_z h l0 12)) fun h3 => (dg (decide (hp_k h3 l0 = some (8, 0))) (dv (F_94 f l0 l1 l2 h3) fun h6 => (some (.inl none, h6))))) (dp (hp_p h l0 11) fun r9 => (dp (hp_p h l0 10) fun r11 => (dg (aib 64 h r11 l4) (dg (aib 64 h r9 l4) (dl (wz h r9 (Int32.toNatClampNeg l4) (hp_z h r11 (Int32.toNatClampNeg l4))) fun h15 => ((B_95_28 f g) l0 l1 l2 (l4 + (1 : Int32)) h15))))))))
theorem sB_95_28 (f : Nat) : ∀ (g : Nat) (l0 : Nat) (l1 : Int32) (l2 : Int32) (l4 : Int32) (w3 : Value) (w5 : Value) (w6 : Value) (w7 : Value) (w8 : Value) (w9 : Value) (w10 : Value) (w11 : Value) (h : hp_T) (o : ev_O), B_95_28 f g l0 l1 l2 l4 h = some o → rg 95 28 [.ref l0, .int l1, .int l2, w3, .int l4, w5, w6, w7, w8, w9, w10, w11] [] h o := by
  intro g
  induction g with
  | zero =>
    intro l0 l1 l2 l4 w3 w5 w6 w7 w8 w9 w10 w11 h o hB
    rw [B_95_28] at hB
    cases hB
  | succ g ih =>
    intro l0 l1 l2 l4 w3 w5 w6 w7 w8 w9 w10 w11 h o hB
    rw [B_95_28] at hB
    refine rg_p rfl rfl ?_
    refine rg_p rfl rfl ?_
    obtain ⟨c1, hB⟩ := dg_e hB
    refine rg_gz rfl rfl rfl (of_decide_eq_true c1) ?_
    rcases db_e hB with ⟨q2, hB⟩ | ⟨q2, hB⟩
    · refine rg_bt (t := 57) (pc' := 37) rfl rfl q2 ?_
      refine rg_p rfl rfl ?_
      refine rg_p rfl rfl ?_
      refine rg_gz rfl rfl rfl (of_decide_eq_true c1) ?_
      obtain ⟨h3, e4, hB⟩ := dl_e hB
      refine rg_pi rfl rfl rfl (of_decide_eq_true c1) e4 ?_
      refine rg_p rfl rfl ?_
      show rg 95 66 _ _ _ _
      refine rg_p rfl rfl ?_
      refine rg_p rfl rfl ?_
      obtain ⟨c5, hB⟩ := dg_e hB
      rcases dv_e hB with ⟨h6, z7, hB⟩ | ⟨q8, h6, z7, hB⟩
      · refine rg_call (rg_v9 (n := 2) (b := l0) (as := [.ref l0, .int l1, .int l2]) (ar := []) rfl rfl rfl (Nat.le_of_ble_eq_true rfl) rfl rfl (Nat.le_of_ble_eq_true rfl) (of_decide_eq_true c5)) (sF_94 z7) ?_
        cases hB
        exact rg_rv rfl rfl
      · subst hB
        exact rg_callX (rg_v9 (n := 2) (b := l0) (as := [.ref l0, .int l1, .int l2]) (ar := []) rfl rfl rfl (Nat.le_of_ble_eq_true rfl) rfl rfl (Nat.le_of_ble_eq_true rfl) (of_decide_eq_true c5)) (sF_94 z7)
    · refine rg_bf (t := 57) (pc' := 37) rfl rfl q2 ?_
      refine rg_p rfl rfl ?_
      obtain ⟨r9, p10, hB⟩ := dp_e hB
      refine rg_gp rfl rfl rfl (of_decide_eq_true c1) p10 ?_
      refine rg_p rfl rfl ?_
      refine rg_p rfl rfl ?_
      obtain ⟨r11, p12, hB⟩ := dp_e hB
      refine rg_gp rfl rfl rfl (of_decide_eq_true c1) p12 ?_
      show rg 95 47 _ _ _ _
      refine rg_p rfl rfl ?_
      obtain ⟨c13, hB⟩ := dg_e hB
      refine rg_ia rfl (ai_of c13) ?_
      obtain ⟨c14, hB⟩ := dg_e hB
      obtain ⟨h15, e16, hB⟩ := dl_e hB
      refine rg_is rfl (ai_of c14) e16 ?_
      refine rg_p (L' := [.ref l0, .int l1, .int l2, w3, .int (l4 + (1 : Int32)), w5, w6, w7, w8, w9, w10, w11]) rfl rfl ?_
      refine rg_p (pc' := 28) rfl rfl ?_
      exact ih _ _ _ _ _ _ _ _ _ _ _ _ h15 _ hB
def F_95 (f : Nat) (a0 : Nat) (a1 : Int32) (a2 : Int32) (h : hp_T) : Option ev_O := (dg (decide (hp_k h a0 = some (8, 0))) (dp (hp_p h a0 10) fun r2 => (dg (aib 64 h r2 (0 : Int32)) (dp (hp_p h a0 1) fun r5 => (dg (aib 64 h r5 a1) (db (ev_c .gt (hp_z h a0 12) (hp_z h r5 (Int32.toNatClampNeg a1))) (di (F_89 f r2 (6 : Int32) h) fun v12 h9 => (B_95_89 f  f a0 a1 a2 ((4 : Int32) * ((hp_z h r2 (Int32.toNatClampNeg (0 : Int32))) &&& (15 : Int32))) v12 ((4 : Int32) * ((hp_z h r2 (Int32.toNatClampNeg (0 : Int32))) &&& (15 : Int32))) (1 : Int32) h9)) (B_95_28 f  f a0 a1 a2 (0 : Int32) h)))))))
theorem sF_95 {f : Nat} {a0 : Nat} {a1 : Int32} {a2 : Int32} {h : hp_T} {o : ev_O} (hB : F_95 f a0 a1 a2 h = some o) : rm 95 [.ref a0, .int a1, .int a2] h o := by
  unfold F_95 at hB
  refine rm_in (L := [.ref a0, .int a1, .int a2, .null, .null, .null, .null, .null, .null, .null, .null, .null]) (Nat.le_of_ble_eq_true rfl) rfl ?_
  refine rg_ic (v := (4 : Int32)) rfl (by decide) ?_
  refine rg_p rfl rfl ?_
  obtain ⟨c1, hB⟩ := dg_e hB
  obtain ⟨r2, p3, hB⟩ := dp_e hB
  refine rg_gp rfl rfl rfl (of_decide_eq_true c1) p3 ?_
  refine rg_ic (v := (0 : Int32)) rfl (by decide) ?_
  obtain ⟨c4, hB⟩ := dg_e hB
  refine rg_ia rfl (ai_of c4) ?_
  show rg 95 7 _ _ _ _
  refine rg_bi (v := (15 : Int32)) rfl (by decide) ?_
  refine rg_p rfl rfl ?_
  refine rg_p rfl rfl ?_
  refine rg_p (L' := [.ref a0, .int a1, .int a2, .int ((4 : Int32) * ((hp_z h r2 (Int32.toNatClampNeg (0 : Int32))) &&& (15 : Int32))), .null, .null, .null, .null, .null, .null, .null, .null]) rfl rfl ?_
  refine rg_p rfl rfl ?_
  refine rg_gz rfl rfl rfl (of_decide_eq_true c1) ?_
  show rg 95 16 _ _ _ _
  refine rg_p rfl rfl ?_
  obtain ⟨r5, p6, hB⟩ := dp_e hB
  refine rg_gp rfl rfl rfl (of_decide_eq_true c1) p6 ?_
  refine rg_p rfl rfl ?_
  obtain ⟨c7, hB⟩ := dg_e hB
  refine rg_ia rfl (ai_of c7) ?_
  rcases db_e hB with ⟨q8, hB⟩ | ⟨q8, hB⟩
  · refine rg_bt (t := 72) (pc' := 25) rfl rfl q8 ?_
    refine rg_p rfl rfl ?_
    refine rg_gp rfl rfl rfl (of_decide_eq_true c1) p3 ?_
    refine rg_bi (v := (6 : Int32)) rfl (by decide) ?_
    rcases di_e hB with ⟨v12, h9, z10, hB⟩ | ⟨q11, h9, z10, hB⟩
    · refine rg_call (rg_s9 (n := 2) (as := [.ref r2, .int (6 : Int32)]) (ar := []) rfl (rg_s0 rfl) rfl rfl (Nat.le_of_ble_eq_true rfl) rfl rfl (Nat.le_of_ble_eq_true rfl)) (sF_89 z10) ?_
      refine rg_p (L' := [.ref a0, .int a1, .int a2, .int ((4 : Int32) * ((hp_z h r2 (Int32.toNatClampNeg (0 : Int32))) &&& (15 : Int32))), .int v12, .null, .null, .null, .null, .null, .null, .null]) rfl rfl ?_
      refine rg_p rfl rfl ?_
      refine rg_p (L' := [.ref a0, .int a1, .int a2, .int ((4 : Int32) * ((hp_z h r2 (Int32.toNatClampNeg (0 : Int32))) &&& (15 : Int32))), .int v12, .int ((4 : Int32) * ((hp_z h r2 (Int32.toNatClampNeg (0 : Int32))) &&& (15 : Int32))), .null, .null, .null, .null, .null, .null]) rfl rfl ?_
      refine rg_ic (v := (1 : Int32)) rfl (by decide) ?_
      refine rg_p (L' := [.ref a0, .int a1, .int a2, .int ((4 : Int32) * ((hp_z h r2 (Int32.toNatClampNeg (0 : Int32))) &&& (15 : Int32))), .int v12, .int ((4 : Int32) * ((hp_z h r2 (Int32.toNatClampNeg (0 : Int32))) &&& (15 : Int32))), .int (1 : Int32), .null, .null, .null, .null, .null]) rfl rfl ?_
      exact sB_95_89 f  f _ _ _ _ _ _ _ _ _ _ _ _ h9 _ hB
    · subst hB
      exact rg_callX (rg_s9 (n := 2) (as := [.ref r2, .int (6 : Int32)]) (ar := []) rfl (rg_s0 rfl) rfl rfl (Nat.le_of_ble_eq_true rfl) rfl rfl (Nat.le_of_ble_eq_true rfl)) (sF_89 z10)
  · refine rg_bf (t := 72) (pc' := 25) rfl rfl q8 ?_
    refine rg_ic (v := (0 : Int32)) rfl (by decide) ?_
    refine rg_p (L' := [.ref a0, .int a1, .int a2, .int ((4 : Int32) * ((hp_z h r2 (Int32.toNatClampNeg (0 : Int32))) &&& (15 : Int32))), .int (0 : Int32), .null, .null, .null, .null, .null, .null, .null]) rfl rfl ?_
    exact sB_95_28 f  f _ _ _ _ _ _ _ _ _ _ _ _ h _ hB
-- 97: RouteHouseModel.begin(II)V
def B_97_2 (f : Nat) : Nat → Nat → Int32 → Int32 → Int32 → hp_T → Option ev_O
  | 0, _, _, _, _, _ => none
  | g + 1, l0, l1, l2, l3, h => (db (ev_c .ge l3 (20 : Int32)) (dg (decide (hp_k h l0 = some (8, 0))) (dp (hp_p h l0 11) fun r3 => (dg (aib 64 h r3 (0 : Int32)) (dl (wz h r3 (Int32.toNatClampNeg (0 : Int32)) (69 : Int32)) fun h6 => (dg (decide (hp_k h6 l0 = some (8, 0))) (dp (hp_p h6 l0 11) fun r9 => (dv (F_88 f r9 (4 : Int32) ((hp_z h6 l0 21) - (hp_z h6 l0 21) / (65536 : Int32) * (65536 : Int32)) h6) fun h11 => (dg (decide (hp_k h11 l0 = some (8, 0))) (dp (hp_p h11 l0 11) fun r15 => (dg (aib 64 h11 r15 (8 : Int32)) (dl (wz h11 r15 (Int32.toNatClampNeg (8 : Int32)) (64 : Int32)) fun h18 => (dg (decide (hp_k h18 l0 = some (8, 0))) (dp (hp_p h18 l0 11) fun r21 => (dg (aib 64 h18 r21 (9 : Int32)) (dl (wz h18 r21 (Int32.toNatClampNeg (9 : Int32)) (1 : Int32)) fun h24 => (dg (decide (hp_k h24 l0 = some (8, 0))) (dp (hp_p h24 l0 11) fun r27 => (dv (F_91 f r27 (12 : Int32) l1 h24) fun h29 => (dg (decide (hp_k h29 l0 = some (8, 0))) (dp (hp_p h29 l0 11) fun r33 => (dv (F_91 f r33 (16 : Int32) l2 h29) fun h35 => (dg (decide (hp_k h35 l0 = some (8, 0))) (dl (wz h35 l0 21 ((hp_z h35 l0 21) + (1 : Int32))) fun h39 => (some (.inl none, h39))))))))))))))))))))))))) (dg (decide (hp_k h l0 = some (8, 0))) (dp (hp_p h l0 11) fun r42 => (dg (aib 64 h r42 l3) (dl (wz h r42 (Int32.toNatClampNeg l3) (0 : Int32)) fun h45 => ((B_97_2 f g) l0 l1 l2 (l3 + (1 : Int32)) h45))))))
theorem sB_97_2 (f : Nat) : ∀ (g : Nat) (l0 : Nat) (l1 : Int32) (l2 : Int32) (l3 : Int32) (h : hp_T) (o : ev_O), B_97_2 f g l0 l1 l2 l3 h = some o → rg 97 2 [.ref l0, .int l1, .int l2, .int l3] [] h o := by
  intro g
  induction g with
  | zero =>
    intro l0 l1 l2 l3  h o hB
    rw [B_97_2] at hB
    cases hB
  | succ g ih =>
    intro l0 l1 l2 l3  h o hB
    rw [B_97_2] at hB
    refine rg_p rfl rfl ?_
    refine rg_bi (v := (20 : Int32)) rfl (by decide) ?_
    rcases db_e hB with ⟨q1, hB⟩ | ⟨q1, hB⟩
    · refine rg_bt (t := 21) (pc' := 8) rfl rfl q1 ?_
      refine rg_p rfl rfl ?_
      obtain ⟨c2, hB⟩ := dg_e hB
      obtain ⟨r3, p4, hB⟩ := dp_e hB
      refine rg_gp rfl rfl rfl (of_decide_eq_true c2) p4 ?_
      refine rg_ic (v := (0 : Int32)) rfl (by decide) ?_
      refine rg_bi (v := (69 : Int32)) rfl (by decide) ?_
      obtain ⟨c5, hB⟩ := dg_e hB
      obtain ⟨h6, e7, hB⟩ := dl_e hB
      refine rg_is rfl (ai_of c5) e7 ?_
      show rg 97 29 _ _ _ _
      refine rg_p rfl rfl ?_
      obtain ⟨c8, hB⟩ := dg_e hB
      obtain ⟨r9, p10, hB⟩ := dp_e hB
      refine rg_gp rfl rfl rfl (of_decide_eq_true c8) p10 ?_
      refine rg_ic (v := (4 : Int32)) rfl (by decide) ?_
      refine rg_p rfl rfl ?_
      refine rg_gz rfl rfl rfl (of_decide_eq_true c8) ?_
      refine rg_ld (v := (65536 : Int32)) rfl rfl ?_
      show rg 97 40 _ _ _ _
      refine rg_rm rfl (by decide) ?_
      rcases dv_e hB with ⟨h11, z12, hB⟩ | ⟨q13, h11, z12, hB⟩
      · refine rg_call (rg_s9 (n := 3) (as := [.ref r9, .int (4 : Int32), .int ((hp_z h6 l0 21) - (hp_z h6 l0 21) / (65536 : Int32) * (65536 : Int32))]) (ar := []) rfl (rg_s0 rfl) rfl rfl (Nat.le_of_ble_eq_true rfl) rfl rfl (Nat.le_of_ble_eq_true rfl)) (sF_88 z12) ?_
        refine rg_p rfl rfl ?_
        obtain ⟨c14, hB⟩ := dg_e hB
        obtain ⟨r15, p16, hB⟩ := dp_e hB
        refine rg_gp rfl rfl rfl (of_decide_eq_true c14) p16 ?_
        refine rg_bi (v := (8 : Int32)) rfl (by decide) ?_
        refine rg_bi (v := (64 : Int32)) rfl (by decide) ?_
        obtain ⟨c17, hB⟩ := dg_e hB
        obtain ⟨h18, e19, hB⟩ := dl_e hB
        refine rg_is rfl (ai_of c17) e19 ?_
        show rg 97 53 _ _ _ _
        refine rg_p rfl rfl ?_
        obtain ⟨c20, hB⟩ := dg_e hB
        obtain ⟨r21, p22, hB⟩ := dp_e hB
        refine rg_gp rfl rfl rfl (of_decide_eq_true c20) p22 ?_
        refine rg_bi (v := (9 : Int32)) rfl (by decide) ?_
        refine rg_ic (v := (1 : Int32)) rfl (by decide) ?_
        obtain ⟨c23, hB⟩ := dg_e hB
        obtain ⟨h24, e25, hB⟩ := dl_e hB
        refine rg_is rfl (ai_of c23) e25 ?_
        refine rg_p rfl rfl ?_
        show rg 97 62 _ _ _ _
        obtain ⟨c26, hB⟩ := dg_e hB
        obtain ⟨r27, p28, hB⟩ := dp_e hB
        refine rg_gp rfl rfl rfl (of_decide_eq_true c26) p28 ?_
        refine rg_bi (v := (12 : Int32)) rfl (by decide) ?_
        refine rg_p rfl rfl ?_
        rcases dv_e hB with ⟨h29, z30, hB⟩ | ⟨q31, h29, z30, hB⟩
        · refine rg_call (rg_s9 (n := 3) (as := [.ref r27, .int (12 : Int32), .int l1]) (ar := []) rfl (rg_s0 rfl) rfl rfl (Nat.le_of_ble_eq_true rfl) rfl rfl (Nat.le_of_ble_eq_true rfl)) (sF_91 z30) ?_
          refine rg_p rfl rfl ?_
          obtain ⟨c32, hB⟩ := dg_e hB
          obtain ⟨r33, p34, hB⟩ := dp_e hB
          refine rg_gp rfl rfl rfl (of_decide_eq_true c32) p34 ?_
          refine rg_bi (v := (16 : Int32)) rfl (by decide) ?_
          refine rg_p rfl rfl ?_
          rcases dv_e hB with ⟨h35, z36, hB⟩ | ⟨q37, h35, z36, hB⟩
          · refine rg_call (rg_s9 (n := 3) (as := [.ref r33, .int (16 : Int32), .int l2]) (ar := []) rfl (rg_s0 rfl) rfl rfl (Nat.le_of_ble_eq_true rfl) rfl rfl (Nat.le_of_ble_eq_true rfl)) (sF_91 z36) ?_
            refine rg_p rfl rfl ?_
            refine rg_p rfl rfl ?_
            obtain ⟨c38, hB⟩ := dg_e hB
            refine rg_gz rfl rfl rfl (of_decide_eq_true c38) ?_
            refine rg_ic (v := (1 : Int32)) rfl (by decide) ?_
            refine rg_p rfl rfl ?_
            show rg 97 88 _ _ _ _
            obtain ⟨h39, e40, hB⟩ := dl_e hB
            refine rg_pi rfl rfl rfl (of_decide_eq_true c38) e40 ?_
            cases hB
            exact rg_rv rfl rfl
          · subst hB
            exact rg_callX (rg_s9 (n := 3) (as := [.ref r33, .int (16 : Int32), .int l2]) (ar := []) rfl (rg_s0 rfl) rfl rfl (Nat.le_of_ble_eq_true rfl) rfl rfl (Nat.le_of_ble_eq_true rfl)) (sF_91 z36)
        · subst hB
          exact rg_callX (rg_s9 (n := 3) (as := [.ref r27, .int (12 : Int32), .int l1]) (ar := []) rfl (rg_s0 rfl) rfl rfl (Nat.le_of_ble_eq_true rfl) rfl rfl (Nat.le_of_ble_eq_true rfl)) (sF_91 z30)
      · subst hB
        exact rg_callX (rg_s9 (n := 3) (as := [.ref r9, .int (4 : Int32), .int ((hp_z h6 l0 21) - (hp_z h6 l0 21) / (65536 : Int32) * (65536 : Int32))]) (ar := []) rfl (rg_s0 rfl) rfl rfl (Nat.le_of_ble_eq_true rfl) rfl rfl (Nat.le_of_ble_eq_true rfl)) (sF_88 z12)
    · refine rg_bf (t := 21) (pc' := 8) rfl rfl q1 ?_
      refine rg_p rfl rfl ?_
      obtain ⟨c41, hB⟩ := dg_e hB
      obtain ⟨r42, p43, hB⟩ := dp_e hB
      refine rg_gp rfl rfl rfl (of_decide_eq_true c41) p43 ?_
      refine rg_p rfl rfl ?_
      refine rg_ic (v := (0 : Int32)) rfl (by decide) ?_
      obtain ⟨c44, hB⟩ := dg_e hB
      obtain ⟨h45, e46, hB⟩ := dl_e hB
      refine rg_is rfl (ai_of c44) e46 ?_
      show rg 97 15 _ _ _ _
      refine rg_p (L' := [.ref l0, .int l1, .int l2, .int (l3 + (1 : Int32))]) rfl rfl ?_
      refine rg_p (pc' := 2) rfl rfl ?_
      exact ih _ _ _ _ h45 _ hB
def F_97 (f : Nat) (a0 : Nat) (a1 : Int32) (a2 : Int32) (h : hp_T) : Option ev_O := (B_97_2 f  f a0 a1 a2 (0 : Int32) h)
theorem sF_97 {f : Nat} {a0 : Nat} {a1 : Int32} {a2 : Int32} {h : hp_T} {o : ev_O} (hB : F_97 f a0 a1 a2 h = some o) : rm 97 [.ref a0, .int a1, .int a2] h o := by
  unfold F_97 at hB
  refine rm_in (L := [.ref a0, .int a1, .int a2, .null]) (Nat.le_of_ble_eq_true rfl) rfl ?_
  refine rg_ic (v := (0 : Int32)) rfl (by decide) ?_
  refine rg_p (L' := [.ref a0, .int a1, .int a2, .int (0 : Int32)]) rfl rfl ?_
  exact sB_97_2 f  f _ _ _ _ h _ hB
-- 98: RouteHouseModel.error(IIII)V
def B_98_207 (f : Nat) : Nat → Nat → Int32 → Int32 → Int32 → hp_T → Option ev_O
  | 0, _, _, _, _, _ => none
  | g + 1, l0, l1, l7, l8, h => (db (ev_c .ge l8 l7) (dg (decide (hp_k h l0 = some (8, 0))) (dl (wz h l0 13 ((28 : Int32) + l7)) fun h3 => (dg (decide (hp_k h3 l0 = some (8, 0))) (dp (hp_p h3 l0 11) fun r6 => (di (F_87 f r6 (20 : Int32) ((hp_z h3 l0 13) - (20 : Int32)) (2 : Int32) h3) fun v11 h8 => (dv (F_88 f r6 (22 : Int32) v11 h8) fun h12 => (dg (decide (hp_k h12 l0 = some (8, 0))) (dv (F_94 f l0 l1 (0 : Int32) h12) fun h16 => (some (.inl none, h16)))))))))) (dg (decide (hp_k h l0 = some (8, 0))) (dp (hp_p h l0 11) fun r20 => (dp (hp_p h l0 10) fun r22 => (dg (aib 64 h r22 l8) (dg (aib 64 h r20 ((28 : Int32) + l8)) (dl (wz h r20 (Int32.toNatClampNeg ((28 : Int32) + l8)) (hp_z h r22 (Int32.toNatClampNeg l8))) fun h26 => ((B_98_207 f g) l0 l1 l7 (l8 + (1 : Int32)) h26))))))))
theorem sB_98_207 (f : Nat) : ∀ (g : Nat) (l0 : Nat) (l1 : Int32) (l7 : Int32) (l8 : Int32) (w2 : Value) (w3 : Value) (w4 : Value) (w5 : Value) (w6 : Value) (h : hp_T) (o : ev_O), B_98_207 f g l0 l1 l7 l8 h = some o → rg 98 207 [.ref l0, .int l1, w2, w3, w4, w5, w6, .int l7, .int l8] [] h o := by
  intro g
  induction g with
  | zero =>
    intro l0 l1 l7 l8 w2 w3 w4 w5 w6 h o hB
    rw [B_98_207] at hB
    cases hB
  | succ g ih =>
    intro l0 l1 l7 l8 w2 w3 w4 w5 w6 h o hB
    rw [B_98_207] at hB
    refine rg_p rfl rfl ?_
    refine rg_p rfl rfl ?_
    rcases db_e hB with ⟨q1, hB⟩ | ⟨q1, hB⟩
    · refine rg_bt (t := 237) (pc' := 214) rfl rfl q1 ?_
      refine rg_p rfl rfl ?_
      refine rg_bi (v := (28 : Int32)) rfl (by decide) ?_
      refine rg_p rfl rfl ?_
      refine rg_p rfl rfl ?_
      obtain ⟨c2, hB⟩ := dg_e hB
      obtain ⟨h3, e4, hB⟩ := dl_e hB
      refine rg_pi rfl rfl rfl (of_decide_eq_true c2) e4 ?_
      show rg 98 246 _ _ _ _
      refine rg_p rfl rfl ?_
      obtain ⟨c5, hB⟩ := dg_e hB
      obtain ⟨r6, p7, hB⟩ := dp_e hB
      refine rg_gp rfl rfl rfl (of_decide_eq_true c5) p7 ?_
      refine rg_bi (v := (22 : Int32)) rfl (by decide) ?_
      refine rg_p rfl rfl ?_
      refine rg_gp rfl rfl rfl (of_decide_eq_true c5) p7 ?_
      refine rg_bi (v := (20 : Int32)) rfl (by decide) ?_
      show rg 98 258 _ _ _ _
      refine rg_p rfl rfl ?_
      refine rg_gz rfl rfl rfl (of_decide_eq_true c5) ?_
      refine rg_bi (v := (20 : Int32)) rfl (by decide) ?_
      refine rg_p rfl rfl ?_
      refine rg_ic (v := (2 : Int32)) rfl (by decide) ?_
      rcases di_e hB with ⟨v11, h8, z9, hB⟩ | ⟨q10, h8, z9, hB⟩
      · refine rg_call (rg_s9 (n := 4) (as := [.ref r6, .int (20 : Int32), .int ((hp_z h3 l0 13) - (20 : Int32)), .int (2 : Int32)]) (ar := []) rfl (rg_s0 rfl) rfl rfl (Nat.le_of_ble_eq_true rfl) rfl rfl (Nat.le_of_ble_eq_true rfl)) (sF_87 z9) ?_
        rcases dv_e hB with ⟨h12, z13, hB⟩ | ⟨q14, h12, z13, hB⟩
        · refine rg_call (rg_s9 (n := 3) (as := [.ref r6, .int (22 : Int32), .int v11]) (ar := []) rfl (rg_s0 rfl) rfl rfl (Nat.le_of_ble_eq_true rfl) rfl rfl (Nat.le_of_ble_eq_true rfl)) (sF_88 z13) ?_
          refine rg_p rfl rfl ?_
          refine rg_p rfl rfl ?_
          refine rg_ic (v := (0 : Int32)) rfl (by decide) ?_
          obtain ⟨c15, hB⟩ := dg_e hB
          rcases dv_e hB with ⟨h16, z17, hB⟩ | ⟨q18, h16, z17, hB⟩
          · refine rg_call (rg_v9 (n := 2) (b := l0) (as := [.ref l0, .int l1, .int (0 : Int32)]) (ar := []) rfl rfl rfl (Nat.le_of_ble_eq_true rfl) rfl rfl (Nat.le_of_ble_eq_true rfl) (of_decide_eq_true c15)) (sF_94 z17) ?_
            cases hB
            exact rg_rv rfl rfl
          · subst hB
            exact rg_callX (rg_v9 (n := 2) (b := l0) (as := [.ref l0, .int l1, .int (0 : Int32)]) (ar := []) rfl rfl rfl (Nat.le_of_ble_eq_true rfl) rfl rfl (Nat.le_of_ble_eq_true rfl) (of_decide_eq_true c15)) (sF_94 z17)
        · subst hB
          exact rg_callX (rg_s9 (n := 3) (as := [.ref r6, .int (22 : Int32), .int v11]) (ar := []) rfl (rg_s0 rfl) rfl rfl (Nat.le_of_ble_eq_true rfl) rfl rfl (Nat.le_of_ble_eq_true rfl)) (sF_88 z13)
      · subst hB
        exact rg_callX (rg_s9 (n := 4) (as := [.ref r6, .int (20 : Int32), .int ((hp_z h3 l0 13) - (20 : Int32)), .int (2 : Int32)]) (ar := []) rfl (rg_s0 rfl) rfl rfl (Nat.le_of_ble_eq_true rfl) rfl rfl (Nat.le_of_ble_eq_true rfl)) (sF_87 z9)
    · refine rg_bf (t := 237) (pc' := 214) rfl rfl q1 ?_
      refine rg_p rfl rfl ?_
      obtain ⟨c19, hB⟩ := dg_e hB
      obtain ⟨r20, p21, hB⟩ := dp_e hB
      refine rg_gp rfl rfl rfl (of_decide_eq_true c19) p21 ?_
      refine rg_bi (v := (28 : Int32)) rfl (by decide) ?_
      refine rg_p rfl rfl ?_
      refine rg_p rfl rfl ?_
      show rg 98 223 _ _ _ _
      refine rg_p rfl rfl ?_
      obtain ⟨r22, p23, hB⟩ := dp_e hB
      refine rg_gp rfl rfl rfl (of_decide_eq_true c19) p23 ?_
      refine rg_p rfl rfl ?_
      obtain ⟨c24, hB⟩ := dg_e hB
      refine rg_ia rfl (ai_of c24) ?_
      obtain ⟨c25, hB⟩ := dg_e hB
      obtain ⟨h26, e27, hB⟩ := dl_e hB
      refine rg_is rfl (ai_of c25) e27 ?_
      refine rg_p (L' := [.ref l0, .int l1, w2, w3, w4, w5, w6, .int l7, .int (l8 + (1 : Int32))]) rfl rfl ?_
      show rg 98 234 _ _ _ _
      refine rg_p (pc' := 207) rfl rfl ?_
      exact ih _ _ _ _ _ _ _ _ _ h26 _ hB
def B_98_202 (f : Nat) (l0 : Nat) (l1 : Int32) (s0 : Int32) (h : hp_T) : Option ev_O := (B_98_207 f  f l0 l1 s0 (0 : Int32) h)
theorem sB_98_202 (f : Nat) (l0 : Nat) (l1 : Int32) (s0 : Int32) (w2 : Value) (w3 : Value) (w4 : Value) (w5 : Value) (w6 : Value) (w7 : Value) (w8 : Value) (h : hp_T) (o : ev_O) (hB : B_98_202 f l0 l1 s0 h = some o) : rg 98 202 [.ref l0, .int l1, w2, w3, w4, w5, w6, w7, w8] [.int s0] h o := by
  unfold B_98_202 at hB
  refine rg_p (L' := [.ref l0, .int l1, w2, w3, w4, w5, w6, .int s0, w8]) rfl rfl ?_
  refine rg_ic (v := (0 : Int32)) rfl (by decide) ?_
  refine rg_p (L' := [.ref l0, .int l1, w2, w3, w4, w5, w6, .int s0, .int (0 : Int32)]) rfl rfl ?_
  exact sB_98_207 f  f _ _ _ _ _ _ _ _ _ h _ hB
def B_98_111 (f : Nat) (h : hp_T) : Option ev_O := (some (.inl none, h))
theorem sB_98_111 (f : Nat) (w0 : Value) (w1 : Value) (w2 : Value) (w3 : Value) (w4 : Value) (w5 : Value) (w6 : Value) (w7 : Value) (w8 : Value) (h : hp_T) (o : ev_O) (hB : B_98_111 f  h = some o) : rg 98 111 [w0, w1, w2, w3, w4, w5, w6, w7, w8] [] h o := by
  unfold B_98_111 at hB
  cases hB
  exact rg_rv rfl rfl
def B_98_60 (f : Nat) (l0 : Nat) (l1 : Int32) (l2 : Int32) (l3 : Int32) (l4 : Int32) (l5 : Int32) (s0 : Int32) (h : hp_T) : Option ev_O := (dg (decide (hp_k h l0 = some (8, 0))) (dp (hp_p h l0 2) fun r2 => (dg (aib 66 h r2 l1) (db (ev_c .ne (hp_z h r2 (Int32.toNatClampNeg l1)) 0) (B_98_111 f   h) (db (ev_c .ne s0 0) (B_98_111 f   h) (dp (hp_p h l0 10) fun r7 => (di (F_89 f r7 (6 : Int32) h) fun v12 h9 => (db (ev_c .gt (v12 &&& (8191 : Int32)) 0) (B_98_111 f   h9) (dg (decide (hp_k h9 l0 = some (8, 0))) (dp (hp_p h9 l0 10) fun r15 => (di (F_90 f r15 (12 : Int32) h9) fun v20 h17 => (db (ev_c .eq v20 0) (B_98_111 f   h17) (dg (decide (hp_k h17 l0 = some (8, 0))) (db (ev_c .ne (hp_z h17 l0 20) 0) (dl (wz h17 l0 20 ((hp_z h17 l0 20) - (1 : Int32))) fun h24 => (dg (decide (hp_k h24 l0 = some (8, 0))) (dp (hp_p h24 l0 0) fun r27 => (dg (aib 64 h24 r27 l1) (dp (hp_p h24 l0 10) fun r30 => (di (F_90 f r30 (12 : Int32) h24) fun v35 h32 => (dg (decide (hp_k h32 l0 = some (8, 0))) (dv (F_97 f l0 (hp_z h24 r27 (Int32.toNatClampNeg l1)) v35 h32) fun h37 => (dg (decide (hp_k h37 l0 = some (8, 0))) (dp (hp_p h37 l0 11) fun r41 => (dg (aib 64 h37 r41 (20 : Int32)) (dl (wz h37 r41 (Int32.toNatClampNeg (20 : Int32)) l2) fun h44 => (dg (decide (hp_k h44 l0 = some (8, 0))) (dp (hp_p h44 l0 11) fun r47 => (dg (aib 64 h44 r47 (21 : Int32)) (dl (wz h44 r47 (Int32.toNatClampNeg (21 : Int32)) l3) fun h50 => (dg (decide (hp_k h50 l0 = some (8, 0))) (dp (hp_p h50 l0 11) fun r53 => (dv (F_88 f r53 (22 : Int32) (0 : Int32) h50) fun h55 => (dg (decide (hp_k h55 l0 = some (8, 0))) (dp (hp_p h55 l0 11) fun r59 => (dv (F_91 f r59 (24 : Int32) l4 h55) fun h61 => (dg (decide (hp_k h61 l0 = some (8, 0))) (db (ev_c .ge (hp_z h61 l0 12) (l5 + (8 : Int32))) (B_98_202 f  l0 l1 (l5 + (8 : Int32)) h61) (B_98_202 f  l0 l1 (hp_z h61 l0 12) h61))))))))))))))))))))))))) (B_98_111 f   h17)))))))))))))))
theorem sB_98_60 (f : Nat) (l0 : Nat) (l1 : Int32) (l2 : Int32) (l3 : Int32) (l4 : Int32) (l5 : Int32) (s0 : Int32) (w6 : Value) (w7 : Value) (w8 : Value) (h : hp_T) (o : ev_O) (hB : B_98_60 f l0 l1 l2 l3 l4 l5 s0 h = some o) : rg 98 60 [.ref l0, .int l1, .int l2, .int l3, .int l4, .int l5, w6, w7, w8] [.int s0] h o := by
  unfold B_98_60 at hB
  refine rg_p (L' := [.ref l0, .int l1, .int l2, .int l3, .int l4, .int l5, .int s0, w7, w8]) rfl rfl ?_
  refine rg_p rfl rfl ?_
  obtain ⟨c1, hB⟩ := dg_e hB
  obtain ⟨r2, p3, hB⟩ := dp_e hB
  refine rg_gp rfl rfl rfl (of_decide_eq_true c1) p3 ?_
  refine rg_p rfl rfl ?_
  obtain ⟨c4, hB⟩ := dg_e hB
  refine rg_ba (t := 66) (by decide) rfl (ai_of c4) ?_
  show rg 98 68 _ _ _ _
  rcases db_e hB with ⟨q5, hB⟩ | ⟨q5, hB⟩
  · refine rg_bt (t := 111) (pc' := 71) rfl rfl q5 ?_
    exact sB_98_111 f  _ _ _ _ _ _ _ _ _ h _ hB
  · refine rg_bf (t := 111) (pc' := 71) rfl rfl q5 ?_
    refine rg_p rfl rfl ?_
    rcases db_e hB with ⟨q6, hB⟩ | ⟨q6, hB⟩
    · refine rg_bt (t := 111) (pc' := 76) rfl rfl q6 ?_
      exact sB_98_111 f  _ _ _ _ _ _ _ _ _ h _ hB
    · refine rg_bf (t := 111) (pc' := 76) rfl rfl q6 ?_
      refine rg_p rfl rfl ?_
      obtain ⟨r7, p8, hB⟩ := dp_e hB
      refine rg_gp rfl rfl rfl (of_decide_eq_true c1) p8 ?_
      refine rg_bi (v := (6 : Int32)) rfl (by decide) ?_
      rcases di_e hB with ⟨v12, h9, z10, hB⟩ | ⟨q11, h9, z10, hB⟩
      · refine rg_call (rg_s9 (n := 2) (as := [.ref r7, .int (6 : Int32)]) (ar := []) rfl (rg_s0 rfl) rfl rfl (Nat.le_of_ble_eq_true rfl) rfl rfl (Nat.le_of_ble_eq_true rfl)) (sF_89 z10) ?_
        refine rg_si (v := (8191 : Int32)) rfl (by decide) ?_
        refine rg_p rfl rfl ?_
        rcases db_e hB with ⟨q13, hB⟩ | ⟨q13, hB⟩
        · refine rg_bt (t := 111) (pc' := 92) rfl rfl q13 ?_
          exact sB_98_111 f  _ _ _ _ _ _ _ _ _ h9 _ hB
        · refine rg_bf (t := 111) (pc' := 92) rfl rfl q13 ?_
          refine rg_p rfl rfl ?_
          obtain ⟨c14, hB⟩ := dg_e hB
          obtain ⟨r15, p16, hB⟩ := dp_e hB
          refine rg_gp rfl rfl rfl (of_decide_eq_true c14) p16 ?_
          refine rg_bi (v := (12 : Int32)) rfl (by decide) ?_
          rcases di_e hB with ⟨v20, h17, z18, hB⟩ | ⟨q19, h17, z18, hB⟩
          · refine rg_call (rg_s9 (n := 2) (as := [.ref r15, .int (12 : Int32)]) (ar := []) rfl (rg_s0 rfl) rfl rfl (Nat.le_of_ble_eq_true rfl) rfl rfl (Nat.le_of_ble_eq_true rfl)) (sF_90 z18) ?_
            rcases db_e hB with ⟨q21, hB⟩ | ⟨q21, hB⟩
            · refine rg_bt (t := 111) (pc' := 104) rfl rfl q21 ?_
              exact sB_98_111 f  _ _ _ _ _ _ _ _ _ h17 _ hB
            · refine rg_bf (t := 111) (pc' := 104) rfl rfl q21 ?_
              refine rg_p rfl rfl ?_
              obtain ⟨c22, hB⟩ := dg_e hB
              refine rg_gz rfl rfl rfl (of_decide_eq_true c22) ?_
              rcases db_e hB with ⟨q23, hB⟩ | ⟨q23, hB⟩
              · refine rg_bt (t := 112) (pc' := 111) rfl rfl q23 ?_
                refine rg_p rfl rfl ?_
                refine rg_p rfl rfl ?_
                refine rg_gz rfl rfl rfl (of_decide_eq_true c22) ?_
                refine rg_ic (v := (1 : Int32)) rfl (by decide) ?_
                refine rg_p rfl rfl ?_
                show rg 98 119 _ _ _ _
                obtain ⟨h24, e25, hB⟩ := dl_e hB
                refine rg_pi rfl rfl rfl (of_decide_eq_true c22) e25 ?_
                refine rg_p rfl rfl ?_
                refine rg_p rfl rfl ?_
                obtain ⟨c26, hB⟩ := dg_e hB
                obtain ⟨r27, p28, hB⟩ := dp_e hB
                refine rg_gp rfl rfl rfl (of_decide_eq_true c26) p28 ?_
                refine rg_p rfl rfl ?_
                obtain ⟨c29, hB⟩ := dg_e hB
                refine rg_ia rfl (ai_of c29) ?_
                show rg 98 129 _ _ _ _
                refine rg_p rfl rfl ?_
                obtain ⟨r30, p31, hB⟩ := dp_e hB
                refine rg_gp rfl rfl rfl (of_decide_eq_true c26) p31 ?_
                refine rg_bi (v := (12 : Int32)) rfl (by decide) ?_
                rcases di_e hB with ⟨v35, h32, z33, hB⟩ | ⟨q34, h32, z33, hB⟩
                · refine rg_call (rg_s9 (n := 2) (as := [.ref r30, .int (12 : Int32)]) (ar := []) rfl (rg_s0 rfl) rfl rfl (Nat.le_of_ble_eq_true rfl) rfl rfl (Nat.le_of_ble_eq_true rfl)) (sF_90 z33) ?_
                  obtain ⟨c36, hB⟩ := dg_e hB
                  rcases dv_e hB with ⟨h37, z38, hB⟩ | ⟨q39, h37, z38, hB⟩
                  · refine rg_call (rg_v9 (n := 2) (b := l0) (as := [.ref l0, .int (hp_z h24 r27 (Int32.toNatClampNeg l1)), .int v35]) (ar := []) rfl rfl rfl (Nat.le_of_ble_eq_true rfl) rfl rfl (Nat.le_of_ble_eq_true rfl) (of_decide_eq_true c36)) (sF_97 z38) ?_
                    refine rg_p rfl rfl ?_
                    obtain ⟨c40, hB⟩ := dg_e hB
                    obtain ⟨r41, p42, hB⟩ := dp_e hB
                    refine rg_gp rfl rfl rfl (of_decide_eq_true c40) p42 ?_
                    refine rg_bi (v := (20 : Int32)) rfl (by decide) ?_
                    refine rg_p rfl rfl ?_
                    obtain ⟨c43, hB⟩ := dg_e hB
                    obtain ⟨h44, e45, hB⟩ := dl_e hB
                    refine rg_is rfl (ai_of c43) e45 ?_
                    show rg 98 149 _ _ _ _
                    refine rg_p rfl rfl ?_
                    obtain ⟨c46, hB⟩ := dg_e hB
                    obtain ⟨r47, p48, hB⟩ := dp_e hB
                    refine rg_gp rfl rfl rfl (of_decide_eq_true c46) p48 ?_
                    refine rg_bi (v := (21 : Int32)) rfl (by decide) ?_
                    refine rg_p rfl rfl ?_
                    obtain ⟨c49, hB⟩ := dg_e hB
                    obtain ⟨h50, e51, hB⟩ := dl_e hB
                    refine rg_is rfl (ai_of c49) e51 ?_
                    refine rg_p rfl rfl ?_
                    show rg 98 158 _ _ _ _
                    obtain ⟨c52, hB⟩ := dg_e hB
                    obtain ⟨r53, p54, hB⟩ := dp_e hB
                    refine rg_gp rfl rfl rfl (of_decide_eq_true c52) p54 ?_
                    refine rg_bi (v := (22 : Int32)) rfl (by decide) ?_
                    refine rg_ic (v := (0 : Int32)) rfl (by decide) ?_
                    rcases dv_e hB with ⟨h55, z56, hB⟩ | ⟨q57, h55, z56, hB⟩
                    · refine rg_call (rg_s9 (n := 3) (as := [.ref r53, .int (22 : Int32), .int (0 : Int32)]) (ar := []) rfl (rg_s0 rfl) rfl rfl (Nat.le_of_ble_eq_true rfl) rfl rfl (Nat.le_of_ble_eq_true rfl)) (sF_88 z56) ?_
                      refine rg_p rfl rfl ?_
                      obtain ⟨c58, hB⟩ := dg_e hB
                      obtain ⟨r59, p60, hB⟩ := dp_e hB
                      refine rg_gp rfl rfl rfl (of_decide_eq_true c58) p60 ?_
                      refine rg_bi (v := (24 : Int32)) rfl (by decide) ?_
                      refine rg_p rfl rfl ?_
                      rcases dv_e hB with ⟨h61, z62, hB⟩ | ⟨q63, h61, z62, hB⟩
                      · refine rg_call (rg_s9 (n := 3) (as := [.ref r59, .int (24 : Int32), .int l4]) (ar := []) rfl (rg_s0 rfl) rfl rfl (Nat.le_of_ble_eq_true rfl) rfl rfl (Nat.le_of_ble_eq_true rfl)) (sF_91 z62) ?_
                        refine rg_p rfl rfl ?_
                        obtain ⟨c64, hB⟩ := dg_e hB
                        refine rg_gz rfl rfl rfl (of_decide_eq_true c64) ?_
                        refine rg_p rfl rfl ?_
                        refine rg_bi (v := (8 : Int32)) rfl (by decide) ?_
                        refine rg_p rfl rfl ?_
                        show rg 98 187 _ _ _ _
                        rcases db_e hB with ⟨q65, hB⟩ | ⟨q65, hB⟩
                        · refine rg_bt (t := 197) (pc' := 190) rfl rfl q65 ?_
                          refine rg_p rfl rfl ?_
                          refine rg_bi (v := (8 : Int32)) rfl (by decide) ?_
                          refine rg_p rfl rfl ?_
                          exact sB_98_202 f  _ _ _ _ _ _ _ _ _ _ h61 _ hB
                        · refine rg_bf (t := 197) (pc' := 190) rfl rfl q65 ?_
                          refine rg_p rfl rfl ?_
                          refine rg_gz rfl rfl rfl (of_decide_eq_true c64) ?_
                          refine rg_p (pc' := 202) rfl rfl ?_
                          exact sB_98_202 f  _ _ _ _ _ _ _ _ _ _ h61 _ hB
                      · subst hB
                        exact rg_callX (rg_s9 (n := 3) (as := [.ref r59, .int (24 : Int32), .int l4]) (ar := []) rfl (rg_s0 rfl) rfl rfl (Nat.le_of_ble_eq_true rfl) rfl rfl (Nat.le_of_ble_eq_true rfl)) (sF_91 z62)
                    · subst hB
                      exact rg_callX (rg_s9 (n := 3) (as := [.ref r53, .int (22 : Int32), .int (0 : Int32)]) (ar := []) rfl (rg_s0 rfl) rfl rfl (Nat.le_of_ble_eq_true rfl) rfl rfl (Nat.le_of_ble_eq_true rfl)) (sF_88 z56)
                  · subst hB
                    exact rg_callX (rg_v9 (n := 2) (b := l0) (as := [.ref l0, .int (hp_z h24 r27 (Int32.toNatClampNeg l1)), .int v35]) (ar := []) rfl rfl rfl (Nat.le_of_ble_eq_true rfl) rfl rfl (Nat.le_of_ble_eq_true rfl) (of_decide_eq_true c36)) (sF_97 z38)
                · subst hB
                  exact rg_callX (rg_s9 (n := 2) (as := [.ref r30, .int (12 : Int32)]) (ar := []) rfl (rg_s0 rfl) rfl rfl (Nat.le_of_ble_eq_true rfl) rfl rfl (Nat.le_of_ble_eq_true rfl)) (sF_90 z33)
              · refine rg_bf (t := 112) (pc' := 111) rfl rfl q23 ?_
                exact sB_98_111 f  _ _ _ _ _ _ _ _ _ h17 _ hB
          · subst hB
            exact rg_callX (rg_s9 (n := 2) (as := [.ref r15, .int (12 : Int32)]) (ar := []) rfl (rg_s0 rfl) rfl rfl (Nat.le_of_ble_eq_true rfl) rfl rfl (Nat.le_of_ble_eq_true rfl)) (sF_90 z18)
      · subst hB
        exact rg_callX (rg_s9 (n := 2) (as := [.ref r7, .int (6 : Int32)]) (ar := []) rfl (rg_s0 rfl) rfl rfl (Nat.le_of_ble_eq_true rfl) rfl rfl (Nat.le_of_ble_eq_true rfl)) (sF_89 z10)
def B_98_59 (f : Nat) (l0 : Nat) (l1 : Int32) (l2 : Int32) (l3 : Int32) (l4 : Int32) (l5 : Int32) (h : hp_T) : Option ev_O := (B_98_60 f  l0 l1 l2 l3 l4 l5 (0 : Int32) h)
theorem sB_98_59 (f : Nat) (l0 : Nat) (l1 : Int32) (l2 : Int32) (l3 : Int32) (l4 : Int32) (l5 : Int32) (w6 : Value) (w7 : Value) (w8 : Value) (h : hp_T) (o : ev_O) (hB : B_98_59 f l0 l1 l2 l3 l4 l5 h = some o) : rg 98 59 [.ref l0, .int l1, .int l2, .int l3, .int l4, .int l5, w6, w7, w8] [] h o := by
  unfold B_98_59 at hB
  refine rg_ic (v := (0 : Int32)) rfl (by decide) ?_
  exact sB_98_60 f  _ _ _ _ _ _ _ _ _ _ h _ hB
def B_98_55 (f : Nat) (l0 : Nat) (l1 : Int32) (l2 : Int32) (l3 : Int32) (l4 : Int32) (l5 : Int32) (h : hp_T) : Option ev_O := (B_98_60 f  l0 l1 l2 l3 l4 l5 (1 : Int32) h)
theorem sB_98_55 (f : Nat) (l0 : Nat) (l1 : Int32) (l2 : Int32) (l3 : Int32) (l4 : Int32) (l5 : Int32) (w6 : Value) (w7 : Value) (w8 : Value) (h : hp_T) (o : ev_O) (hB : B_98_55 f l0 l1 l2 l3 l4 l5 h = some o) : rg 98 55 [.ref l0, .int l1, .int l2, .int l3, .int l4, .int l5, w6, w7, w8] [] h o := by
  unfold B_98_55 at hB
  refine rg_ic (v := (1 : Int32)) rfl (by decide) ?_
  refine rg_p (pc' := 60) rfl rfl ?_
  exact sB_98_60 f  _ _ _ _ _ _ _ _ _ _ h _ hB
def F_98 (f : Nat) (a0 : Nat) (a1 : Int32) (a2 : Int32) (a3 : Int32) (a4 : Int32) (h : hp_T) : Option ev_O := (dg (decide (hp_k h a0 = some (8, 0))) (dp (hp_p h a0 10) fun r2 => (dg (aib 64 h r2 (0 : Int32)) (dg (aib 64 h r2 (9 : Int32)) (db (ev_c .ne (hp_z h r2 (Int32.toNatClampNeg (9 : Int32))) (1 : Int32)) (B_98_59 f  a0 a1 a2 a3 a4 ((4 : Int32) * ((hp_z h r2 (Int32.toNatClampNeg (0 : Int32))) &&& (15 : Int32))) h) (db (ev_c .eq (hp_z h a0 12) ((4 : Int32) * ((hp_z h r2 (Int32.toNatClampNeg (0 : Int32))) &&& (15 : Int32)))) (B_98_55 f  a0 a1 a2 a3 a4 ((4 : Int32) * ((hp_z h r2 (Int32.toNatClampNeg (0 : Int32))) &&& (15 : Int32))) h) (dg (aib 64 h r2 ((4 : Int32) * ((hp_z h r2 (Int32.toNatClampNeg (0 : Int32))) &&& (15 : Int32)))) (db (ev_c .eq (hp_z h r2 (Int32.toNatClampNeg ((4 : Int32) * ((hp_z h r2 (Int32.toNatClampNeg (0 : Int32))) &&& (15 : Int32))))) (8 : Int32)) (B_98_59 f  a0 a1 a2 a3 a4 ((4 : Int32) * ((hp_z h r2 (Int32.toNatClampNeg (0 : Int32))) &&& (15 : Int32))) h) (db (ev_c .eq (hp_z h r2 (Int32.toNatClampNeg ((4 : Int32) * ((hp_z h r2 (Int32.toNatClampNeg (0 : Int32))) &&& (15 : Int32))))) 0) (B_98_59 f  a0 a1 a2 a3 a4 ((4 : Int32) * ((hp_z h r2 (Int32.toNatClampNeg (0 : Int32))) &&& (15 : Int32))) h) (B_98_55 f  a0 a1 a2 a3 a4 ((4 : Int32) * ((hp_z h r2 (Int32.toNatClampNeg (0 : Int32))) &&& (15 : Int32))) h))))))))))
theorem sF_98 {f : Nat} {a0 : Nat} {a1 : Int32} {a2 : Int32} {a3 : Int32} {a4 : Int32} {h : hp_T} {o : ev_O} (hB : F_98 f a0 a1 a2 a3 a4 h = some o) : rm 98 [.ref a0, .int a1, .int a2, .int a3, .int a4] h o := by
  unfold F_98 at hB
  refine rm_in (L := [.ref a0, .int a1, .int a2, .int a3, .int a4, .null, .null, .null, .null]) (Nat.le_of_ble_eq_true rfl) rfl ?_
  refine rg_ic (v := (4 : Int32)) rfl (by decide) ?_
  refine rg_p rfl rfl ?_
  obtain ⟨c1, hB⟩ := dg_e hB
  obtain ⟨r2, p3, hB⟩ := dp_e hB
  refine rg_gp rfl rfl rfl (of_decide_eq_true c1) p3 ?_
  refine rg_ic (v := (0 : Int32)) rfl (by decide) ?_
  obtain ⟨c4, hB⟩ := dg_e hB
  refine rg_ia rfl (ai_of c4) ?_
  show rg 98 7 _ _ _ _
  refine rg_bi (v := (15 : Int32)) rfl (by decide) ?_
  refine rg_p rfl rfl ?_
  refine rg_p rfl rfl ?_
  refine rg_p (L' := [.ref a0, .int a1, .int a2, .int a3, .int a4, .int ((4 : Int32) * ((hp_z h r2 (Int32.toNatClampNeg (0 : Int32))) &&& (15 : Int32))), .null, .null, .null]) rfl rfl ?_
  refine rg_p rfl rfl ?_
  refine rg_gp rfl rfl rfl (of_decide_eq_true c1) p3 ?_
  show rg 98 17 _ _ _ _
  refine rg_bi (v := (9 : Int32)) rfl (by decide) ?_
  obtain ⟨c5, hB⟩ := dg_e hB
  refine rg_ia rfl (ai_of c5) ?_
  refine rg_ic (v := (1 : Int32)) rfl (by decide) ?_
  rcases db_e hB with ⟨q6, hB⟩ | ⟨q6, hB⟩
  · refine rg_bt (t := 59) (pc' := 24) rfl rfl q6 ?_
    exact sB_98_59 f  _ _ _ _ _ _ _ _ _ h _ hB
  · refine rg_bf (t := 59) (pc' := 24) rfl rfl q6 ?_
    refine rg_p rfl rfl ?_
    refine rg_gz rfl rfl rfl (of_decide_eq_true c1) ?_
    refine rg_p rfl rfl ?_
    rcases db_e hB with ⟨q7, hB⟩ | ⟨q7, hB⟩
    · refine rg_bt (t := 55) (pc' := 33) rfl rfl q7 ?_
      exact sB_98_55 f  _ _ _ _ _ _ _ _ _ h _ hB
    · refine rg_bf (t := 55) (pc' := 33) rfl rfl q7 ?_
      refine rg_p rfl rfl ?_
      refine rg_gp rfl rfl rfl (of_decide_eq_true c1) p3 ?_
      refine rg_p rfl rfl ?_
      obtain ⟨c8, hB⟩ := dg_e hB
      refine rg_ia rfl (ai_of c8) ?_
      refine rg_bi (v := (8 : Int32)) rfl (by decide) ?_
      show rg 98 42 _ _ _ _
      rcases db_e hB with ⟨q9, hB⟩ | ⟨q9, hB⟩
      · refine rg_bt (t := 59) (pc' := 45) rfl rfl q9 ?_
        exact sB_98_59 f  _ _ _ _ _ _ _ _ _ h _ hB
      · refine rg_bf (t := 59) (pc' := 45) rfl rfl q9 ?_
        refine rg_p rfl rfl ?_
        refine rg_gp rfl rfl rfl (of_decide_eq_true c1) p3 ?_
        refine rg_p rfl rfl ?_
        refine rg_ia rfl (ai_of c8) ?_
        rcases db_e hB with ⟨q10, hB⟩ | ⟨q10, hB⟩
        · refine rg_bt (t := 59) (pc' := 55) rfl rfl q10 ?_
          exact sB_98_59 f  _ _ _ _ _ _ _ _ _ h _ hB
        · refine rg_bf (t := 59) (pc' := 55) rfl rfl q10 ?_
          exact sB_98_55 f  _ _ _ _ _ _ _ _ _ h _ hB
