-- 114: RouteHouseModel.pass(I)I
def B_114_106 (f : Nat) (C32 : Nat → Int32 → Int32 → hp_T → Option ev_O) (l0 : Nat) (l1 : Int32) (l2 : Int32) (h : hp_T) : Option ev_O := (C32 l0 l1 (l2 + (1 : Int32)) h)
set_option maxRecDepth 20000 in
theorem sB_114_106 (f : Nat) (C32 : Nat → Int32 → Int32 → hp_T → Option ev_O) (hC32 : ∀ (l0 : Nat) (l1 : Int32) (l2 : Int32) (h : hp_T) (o : ev_O), C32 l0 l1 l2 h = some o → rg 114 32 [.ref l0, .int l1, .int l2] [] h o) (l0 : Nat) (l1 : Int32) (l2 : Int32) (h : hp_T) (o : ev_O) (hB : B_114_106 f C32 l0 l1 l2 h = some o) : rg 114 106 [.ref l0, .int l1, .int l2] [] h o := by
  unfold B_114_106 at hB
  refine rg_p (L' := [.ref l0, .int l1, .int (l2 + (1 : Int32))]) rfl rfl ?_
  refine rg_p (pc' := 32) rfl rfl ?_
  exact hC32 _ _ _ h _ hB
def B_114_76 (f : Nat) (C32 : Nat → Int32 → Int32 → hp_T → Option ev_O) : Nat → Nat → Int32 → Int32 → hp_T → Option ev_O
  | 0, _, _, _, _ => none
  | g + 1, l0, l1, l2, h => (dg (decide (hp_k h l0 = some (8, 0))) (db (ev_c .le (hp_z h l0 28) 0) (B_114_106 f C32 l0 l1 l2 h) (dp (hp_p h l0 32) fun r3 => (dg (aib 64 h r3 (0 : Int32)) (db (ev_c .gt ((hp_z h r3 (Int32.toNatClampNeg (0 : Int32))) + (30 : Int32)) (hp_z h l0 22)) (B_114_106 f C32 l0 l1 l2 h) (dv (F_113 f l0 h) fun h7 => ((B_114_76 f C32 g) l0 l1 l2 h7)))))))
set_option maxRecDepth 20000 in
theorem sB_114_76 (f : Nat) (C32 : Nat → Int32 → Int32 → hp_T → Option ev_O) (hC32 : ∀ (l0 : Nat) (l1 : Int32) (l2 : Int32) (h : hp_T) (o : ev_O), C32 l0 l1 l2 h = some o → rg 114 32 [.ref l0, .int l1, .int l2] [] h o) : ∀ (g : Nat) (l0 : Nat) (l1 : Int32) (l2 : Int32) (h : hp_T) (o : ev_O), B_114_76 f C32 g l0 l1 l2 h = some o → rg 114 76 [.ref l0, .int l1, .int l2] [] h o := by
  intro g
  induction g with
  | zero =>
    intro l0 l1 l2  h o hB
    rw [B_114_76] at hB
    cases hB
  | succ g ih =>
    intro l0 l1 l2  h o hB
    rw [B_114_76] at hB
    refine rg_p rfl rfl ?_
    obtain ⟨c1, hB⟩ := dg_e hB
    refine rg_gz rfl rfl rfl (of_decide_eq_true c1) ?_
    rcases db_e hB with ⟨q2, hB⟩ | ⟨q2, hB⟩
    · refine rg_bt (t := 106) (pc' := 83) rfl rfl q2 ?_
      exact sB_114_106 f C32 hC32 _ _ _ h _ hB
    · refine rg_bf (t := 106) (pc' := 83) rfl rfl q2 ?_
      refine rg_p rfl rfl ?_
      obtain ⟨r3, p4, hB⟩ := dp_e hB
      refine rg_gp rfl rfl rfl (of_decide_eq_true c1) p4 ?_
      refine rg_ic (v := (0 : Int32)) rfl (by decide) ?_
      obtain ⟨c5, hB⟩ := dg_e hB
      refine rg_ia rfl (ai_of c5) ?_
      refine rg_bi (v := (30 : Int32)) rfl (by decide) ?_
      show rg 114 91 _ _ _ _
      refine rg_p rfl rfl ?_
      refine rg_p rfl rfl ?_
      refine rg_gz rfl rfl rfl (of_decide_eq_true c1) ?_
      rcases db_e hB with ⟨q6, hB⟩ | ⟨q6, hB⟩
      · refine rg_bt (t := 106) (pc' := 99) rfl rfl q6 ?_
        exact sB_114_106 f C32 hC32 _ _ _ h _ hB
      · refine rg_bf (t := 106) (pc' := 99) rfl rfl q6 ?_
        refine rg_p rfl rfl ?_
        rcases dv_e hB with ⟨h7, z8, hB⟩ | ⟨q9, h7, z8, hB⟩
        · refine rg_call (rg_v9 (n := 0) (b := l0) (as := [.ref l0]) (ar := []) rfl rfl rfl (Nat.le_of_ble_eq_true rfl) rfl rfl (Nat.le_of_ble_eq_true rfl) (of_decide_eq_true c1)) (sF_113 z8) ?_
          refine rg_p (pc' := 76) rfl rfl ?_
          exact ih _ _ _ h7 _ hB
        · subst hB
          exact rg_callX (rg_v9 (n := 0) (b := l0) (as := [.ref l0]) (ar := []) rfl rfl rfl (Nat.le_of_ble_eq_true rfl) rfl rfl (Nat.le_of_ble_eq_true rfl) (of_decide_eq_true c1)) (sF_113 z8)
def B_114_32 (f : Nat) : Nat → Nat → Int32 → Int32 → hp_T → Option ev_O
  | 0, _, _, _, _ => none
  | g + 1, l0, l1, l2, h => (db (ev_c .ge l2 l1) (dg (decide (hp_k h l0 = some (8, 0))) (some (.inl (some (.int (hp_z h l0 19))), h))) (dg (decide (hp_k h l0 = some (8, 0))) (dl (wz h l0 22 ((hp_z h l0 22) + (1 : Int32))) fun h4 => (dg (decide (hp_k h4 l0 = some (8, 0))) (db (ev_c .ne ((hp_z h4 l0 22) - (hp_z h4 l0 22) / (10 : Int32) * (10 : Int32)) 0) (B_114_76 f (B_114_32 f g) f l0 l1 l2 h4) (db (ev_c .ge (hp_z h4 l0 20) (6 : Int32)) (B_114_76 f (B_114_32 f g) f l0 l1 l2 h4) (dl (wz h4 l0 20 ((hp_z h4 l0 20) + (1 : Int32))) fun h9 => (B_114_76 f (B_114_32 f g) f l0 l1 l2 h9))))))))
set_option maxRecDepth 20000 in
theorem sB_114_32 (f : Nat) : ∀ (g : Nat) (l0 : Nat) (l1 : Int32) (l2 : Int32) (h : hp_T) (o : ev_O), B_114_32 f g l0 l1 l2 h = some o → rg 114 32 [.ref l0, .int l1, .int l2] [] h o := by
  intro g
  induction g with
  | zero =>
    intro l0 l1 l2  h o hB
    rw [B_114_32] at hB
    cases hB
  | succ g ih =>
    intro l0 l1 l2  h o hB
    rw [B_114_32] at hB
    refine rg_p rfl rfl ?_
    refine rg_p rfl rfl ?_
    rcases db_e hB with ⟨q1, hB⟩ | ⟨q1, hB⟩
    · refine rg_bt (t := 112) (pc' := 37) rfl rfl q1 ?_
      refine rg_p rfl rfl ?_
      obtain ⟨c2, hB⟩ := dg_e hB
      refine rg_gz rfl rfl rfl (of_decide_eq_true c2) ?_
      cases hB
      exact rg_ri rfl rfl rfl
    · refine rg_bf (t := 112) (pc' := 37) rfl rfl q1 ?_
      refine rg_p rfl rfl ?_
      refine rg_p rfl rfl ?_
      obtain ⟨c3, hB⟩ := dg_e hB
      refine rg_gz rfl rfl rfl (of_decide_eq_true c3) ?_
      refine rg_ic (v := (1 : Int32)) rfl (by decide) ?_
      refine rg_p rfl rfl ?_
      show rg 114 44 _ _ _ _
      obtain ⟨h4, e5, hB⟩ := dl_e hB
      refine rg_pi rfl rfl rfl (of_decide_eq_true c3) e5 ?_
      refine rg_p rfl rfl ?_
      obtain ⟨c6, hB⟩ := dg_e hB
      refine rg_gz rfl rfl rfl (of_decide_eq_true c6) ?_
      refine rg_bi (v := (10 : Int32)) rfl (by decide) ?_
      refine rg_rm rfl (by decide) ?_
      rcases db_e hB with ⟨q7, hB⟩ | ⟨q7, hB⟩
      · refine rg_bt (t := 76) (pc' := 57) rfl rfl q7 ?_
        exact sB_114_76 f (B_114_32 f g) ih f _ _ _ h4 _ hB
      · refine rg_bf (t := 76) (pc' := 57) rfl rfl q7 ?_
        refine rg_p rfl rfl ?_
        refine rg_gz rfl rfl rfl (of_decide_eq_true c6) ?_
        refine rg_bi (v := (6 : Int32)) rfl (by decide) ?_
        rcases db_e hB with ⟨q8, hB⟩ | ⟨q8, hB⟩
        · refine rg_bt (t := 76) (pc' := 66) rfl rfl q8 ?_
          exact sB_114_76 f (B_114_32 f g) ih f _ _ _ h4 _ hB
        · refine rg_bf (t := 76) (pc' := 66) rfl rfl q8 ?_
          refine rg_p rfl rfl ?_
          refine rg_p rfl rfl ?_
          refine rg_gz rfl rfl rfl (of_decide_eq_true c6) ?_
          refine rg_ic (v := (1 : Int32)) rfl (by decide) ?_
          refine rg_p rfl rfl ?_
          show rg 114 73 _ _ _ _
          obtain ⟨h9, e10, hB⟩ := dl_e hB
          refine rg_pi rfl rfl rfl (of_decide_eq_true c6) e10 ?_
          exact sB_114_76 f (B_114_32 f g) ih f _ _ _ h9 _ hB
def B_114_16 (f : Nat) (l0 : Nat) (l1 : Int32) (s0 : Int32) (s1 : Nat) (h : hp_T) : Option ev_O := (dg (decide (hp_k h s1 = some (8, 0))) (di (F_75 f s1 s0 (1 : Int32) h) fun v5 h2 => (db (ev_c .eq v5 0) (dg (decide (hp_k h2 l0 = some (8, 0))) (dl (wz h2 l0 19 (0 : Int32)) fun h8 => (B_114_32 f  f l0 l1 (0 : Int32) h8))) (some (.inl (some (.int (0 : Int32))), h2)))))
set_option maxRecDepth 20000 in
theorem sB_114_16 (f : Nat) (l0 : Nat) (l1 : Int32) (s0 : Int32) (s1 : Nat) (w2 : Value) (h : hp_T) (o : ev_O) (hB : B_114_16 f l0 l1 s0 s1 h = some o) : rg 114 16 [.ref l0, .int l1, w2] [.int s0, .ref s1] h o := by
  unfold B_114_16 at hB
  refine rg_ic (v := (1 : Int32)) rfl (by decide) ?_
  obtain ⟨c1, hB⟩ := dg_e hB
  rcases di_e hB with ⟨v5, h2, z3, hB⟩ | ⟨q4, h2, z3, hB⟩
  · refine rg_call (rg_v9 (n := 2) (b := s1) (as := [.ref s1, .int s0, .int (1 : Int32)]) (ar := []) rfl rfl rfl (Nat.le_of_ble_eq_true rfl) rfl rfl (Nat.le_of_ble_eq_true rfl) (of_decide_eq_true c1)) (sF_75 z3) ?_
    rcases db_e hB with ⟨q6, hB⟩ | ⟨q6, hB⟩
    · refine rg_bt (t := 25) (pc' := 23) rfl rfl q6 ?_
      refine rg_p rfl rfl ?_
      refine rg_ic (v := (0 : Int32)) rfl (by decide) ?_
      obtain ⟨c7, hB⟩ := dg_e hB
      obtain ⟨h8, e9, hB⟩ := dl_e hB
      refine rg_pi rfl rfl rfl (of_decide_eq_true c7) e9 ?_
      refine rg_ic (v := (0 : Int32)) rfl (by decide) ?_
      refine rg_p (L' := [.ref l0, .int l1, .int (0 : Int32)]) rfl rfl ?_
      exact sB_114_32 f  f _ _ _ h8 _ hB
    · refine rg_bf (t := 25) (pc' := 23) rfl rfl q6 ?_
      refine rg_ic (v := (0 : Int32)) rfl (by decide) ?_
      cases hB
      exact rg_ri rfl rfl rfl
  · subst hB
    exact rg_callX (rg_v9 (n := 2) (b := s1) (as := [.ref s1, .int s0, .int (1 : Int32)]) (ar := []) rfl rfl rfl (Nat.le_of_ble_eq_true rfl) rfl rfl (Nat.le_of_ble_eq_true rfl) (of_decide_eq_true c1)) (sF_75 z3)
def B_114_11 (f : Nat) (l0 : Nat) (l1 : Int32) (s0 : Nat) (h : hp_T) : Option ev_O := (B_114_16 f  l0 l1 (1 : Int32) s0 h)
set_option maxRecDepth 20000 in
theorem sB_114_11 (f : Nat) (l0 : Nat) (l1 : Int32) (s0 : Nat) (w2 : Value) (h : hp_T) (o : ev_O) (hB : B_114_11 f l0 l1 s0 h = some o) : rg 114 11 [.ref l0, .int l1, w2] [.ref s0] h o := by
  unfold B_114_11 at hB
  refine rg_ic (v := (1 : Int32)) rfl (by decide) ?_
  refine rg_p (pc' := 16) rfl rfl ?_
  exact sB_114_16 f  _ _ _ _ _ h _ hB
def F_114 (f : Nat) (a0 : Nat) (a1 : Int32) (h : hp_T) : Option ev_O := (db (ev_c .lt a1 0) (B_114_11 f  a0 a1 a0 h) (db (ev_c .le a1 (100 : Int32)) (B_114_16 f  a0 a1 (0 : Int32) a0 h) (B_114_11 f  a0 a1 a0 h)))
set_option maxRecDepth 20000 in
theorem sF_114 {f : Nat} {a0 : Nat} {a1 : Int32} {h : hp_T} {o : ev_O} (hB : F_114 f a0 a1 h = some o) : rm 114 [.ref a0, .int a1] h o := by
  unfold F_114 at hB
  refine rm_in (L := [.ref a0, .int a1, .null]) (Nat.le_of_ble_eq_true rfl) rfl ?_
  refine rg_p rfl rfl ?_
  refine rg_p rfl rfl ?_
  rcases db_e hB with ⟨q1, hB⟩ | ⟨q1, hB⟩
  · refine rg_bt (t := 11) (pc' := 5) rfl rfl q1 ?_
    exact sB_114_11 f  _ _ _ _ h _ hB
  · refine rg_bf (t := 11) (pc' := 5) rfl rfl q1 ?_
    refine rg_p rfl rfl ?_
    refine rg_bi (v := (100 : Int32)) rfl (by decide) ?_
    rcases db_e hB with ⟨q2, hB⟩ | ⟨q2, hB⟩
    · refine rg_bt (t := 15) (pc' := 11) rfl rfl q2 ?_
      refine rg_ic (v := (0 : Int32)) rfl (by decide) ?_
      exact sB_114_16 f  _ _ _ _ _ h _ hB
    · refine rg_bf (t := 15) (pc' := 11) rfl rfl q2 ?_
      exact sB_114_11 f  _ _ _ _ h _ hB
-- 115: RouteHouseModel.sent(II)I
def B_115_82 (f : Nat) (s0 : Int32) (h : hp_T) : Option ev_O := (some (.inl (some (.int s0)), h))
set_option maxRecDepth 20000 in
theorem sB_115_82 (f : Nat) (s0 : Int32) (w0 : Value) (w1 : Value) (w2 : Value) (h : hp_T) (o : ev_O) (hB : B_115_82 f s0 h = some o) : rg 115 82 [w0, w1, w2] [.int s0] h o := by
  unfold B_115_82 at hB
  cases hB
  exact rg_ri rfl rfl rfl
def B_115_47 (f : Nat) (h : hp_T) : Option ev_O := (some (.inl (some (.int (0 : Int32))), h))
set_option maxRecDepth 20000 in
theorem sB_115_47 (f : Nat) (w0 : Value) (w1 : Value) (w2 : Value) (h : hp_T) (o : ev_O) (hB : B_115_47 f  h = some o) : rg 115 47 [w0, w1, w2] [] h o := by
  unfold B_115_47 at hB
  refine rg_ic (v := (0 : Int32)) rfl (by decide) ?_
  cases hB
  exact rg_ri rfl rfl rfl
def B_115_40 (f : Nat) (l0 : Nat) (l1 : Int32) (l2 : Int32) (s0 : Int32) (s1 : Nat) (h : hp_T) : Option ev_O := (dg (decide (hp_k h s1 = some (8, 0))) (di (F_75 f s1 s0 (2 : Int32) h) fun v5 h2 => (db (ev_c .eq v5 0) (db (ev_c .ne l2 0) (db (ev_c .ne l2 (1 : Int32)) (dg (decide (hp_k h2 l0 = some (8, 0))) (dp (hp_p h2 l0 18) fun r10 => (dg (aib 64 h2 r10 l1) (B_115_82 f  (hp_z h2 r10 (Int32.toNatClampNeg l1)) h2)))) (dg (decide (hp_k h2 l0 = some (8, 0))) (dp (hp_p h2 l0 17) fun r14 => (dg (aib 64 h2 r14 l1) (B_115_82 f  (hp_z h2 r14 (Int32.toNatClampNeg l1)) h2))))) (dg (decide (hp_k h2 l0 = some (8, 0))) (dp (hp_p h2 l0 16) fun r18 => (dg (aib 64 h2 r18 l1) (B_115_82 f  (hp_z h2 r18 (Int32.toNatClampNeg l1)) h2))))) (B_115_47 f   h2))))
set_option maxRecDepth 20000 in
theorem sB_115_40 (f : Nat) (l0 : Nat) (l1 : Int32) (l2 : Int32) (s0 : Int32) (s1 : Nat) (h : hp_T) (o : ev_O) (hB : B_115_40 f l0 l1 l2 s0 s1 h = some o) : rg 115 40 [.ref l0, .int l1, .int l2] [.int s0, .ref s1] h o := by
  unfold B_115_40 at hB
  refine rg_ic (v := (2 : Int32)) rfl (by decide) ?_
  obtain ⟨c1, hB⟩ := dg_e hB
  rcases di_e hB with ⟨v5, h2, z3, hB⟩ | ⟨q4, h2, z3, hB⟩
  · refine rg_call (rg_v9 (n := 2) (b := s1) (as := [.ref s1, .int s0, .int (2 : Int32)]) (ar := []) rfl rfl rfl (Nat.le_of_ble_eq_true rfl) rfl rfl (Nat.le_of_ble_eq_true rfl) (of_decide_eq_true c1)) (sF_75 z3) ?_
    rcases db_e hB with ⟨q6, hB⟩ | ⟨q6, hB⟩
    · refine rg_bt (t := 49) (pc' := 47) rfl rfl q6 ?_
      refine rg_p rfl rfl ?_
      rcases db_e hB with ⟨q7, hB⟩ | ⟨q7, hB⟩
      · refine rg_bt (t := 62) (pc' := 53) rfl rfl q7 ?_
        refine rg_p rfl rfl ?_
        refine rg_ic (v := (1 : Int32)) rfl (by decide) ?_
        rcases db_e hB with ⟨q8, hB⟩ | ⟨q8, hB⟩
        · refine rg_bt (t := 76) (pc' := 67) rfl rfl q8 ?_
          refine rg_p rfl rfl ?_
          obtain ⟨c9, hB⟩ := dg_e hB
          obtain ⟨r10, p11, hB⟩ := dp_e hB
          refine rg_gp rfl rfl rfl (of_decide_eq_true c9) p11 ?_
          refine rg_p rfl rfl ?_
          obtain ⟨c12, hB⟩ := dg_e hB
          refine rg_ia rfl (ai_of c12) ?_
          exact sB_115_82 f  _ _ _ _ h2 _ hB
        · refine rg_bf (t := 76) (pc' := 67) rfl rfl q8 ?_
          refine rg_p rfl rfl ?_
          obtain ⟨c13, hB⟩ := dg_e hB
          obtain ⟨r14, p15, hB⟩ := dp_e hB
          refine rg_gp rfl rfl rfl (of_decide_eq_true c13) p15 ?_
          refine rg_p rfl rfl ?_
          obtain ⟨c16, hB⟩ := dg_e hB
          refine rg_ia rfl (ai_of c16) ?_
          refine rg_p (pc' := 82) rfl rfl ?_
          exact sB_115_82 f  _ _ _ _ h2 _ hB
      · refine rg_bf (t := 62) (pc' := 53) rfl rfl q7 ?_
        refine rg_p rfl rfl ?_
        obtain ⟨c17, hB⟩ := dg_e hB
        obtain ⟨r18, p19, hB⟩ := dp_e hB
        refine rg_gp rfl rfl rfl (of_decide_eq_true c17) p19 ?_
        refine rg_p rfl rfl ?_
        obtain ⟨c20, hB⟩ := dg_e hB
        refine rg_ia rfl (ai_of c20) ?_
        refine rg_p (pc' := 82) rfl rfl ?_
        exact sB_115_82 f  _ _ _ _ h2 _ hB
    · refine rg_bf (t := 49) (pc' := 47) rfl rfl q6 ?_
      exact sB_115_47 f  _ _ _ h2 _ hB
  · subst hB
    exact rg_callX (rg_v9 (n := 2) (b := s1) (as := [.ref s1, .int s0, .int (2 : Int32)]) (ar := []) rfl rfl rfl (Nat.le_of_ble_eq_true rfl) rfl rfl (Nat.le_of_ble_eq_true rfl) (of_decide_eq_true c1)) (sF_75 z3)
def B_115_35 (f : Nat) (l0 : Nat) (l1 : Int32) (l2 : Int32) (s0 : Nat) (h : hp_T) : Option ev_O := (B_115_40 f  l0 l1 l2 (1 : Int32) s0 h)
set_option maxRecDepth 20000 in
theorem sB_115_35 (f : Nat) (l0 : Nat) (l1 : Int32) (l2 : Int32) (s0 : Nat) (h : hp_T) (o : ev_O) (hB : B_115_35 f l0 l1 l2 s0 h = some o) : rg 115 35 [.ref l0, .int l1, .int l2] [.ref s0] h o := by
  unfold B_115_35 at hB
  refine rg_ic (v := (1 : Int32)) rfl (by decide) ?_
  refine rg_p (pc' := 40) rfl rfl ?_
  exact sB_115_40 f  _ _ _ _ _ h _ hB
def B_115_18 (f : Nat) (l0 : Nat) (l1 : Int32) (l2 : Int32) (s0 : Int32) (s1 : Nat) (h : hp_T) : Option ev_O := (dg (decide (hp_k h s1 = some (8, 0))) (di (F_75 f s1 s0 (1 : Int32) h) fun v5 h2 => (db (ev_c .ne v5 0) (B_115_47 f   h2) (db (ev_c .lt l2 0) (B_115_35 f  l0 l1 l2 l0 h2) (db (ev_c .le l2 (2 : Int32)) (B_115_40 f  l0 l1 l2 (0 : Int32) l0 h2) (B_115_35 f  l0 l1 l2 l0 h2))))))
set_option maxRecDepth 20000 in
theorem sB_115_18 (f : Nat) (l0 : Nat) (l1 : Int32) (l2 : Int32) (s0 : Int32) (s1 : Nat) (h : hp_T) (o : ev_O) (hB : B_115_18 f l0 l1 l2 s0 s1 h = some o) : rg 115 18 [.ref l0, .int l1, .int l2] [.int s0, .ref s1] h o := by
  unfold B_115_18 at hB
  refine rg_ic (v := (1 : Int32)) rfl (by decide) ?_
  obtain ⟨c1, hB⟩ := dg_e hB
  rcases di_e hB with ⟨v5, h2, z3, hB⟩ | ⟨q4, h2, z3, hB⟩
  · refine rg_call (rg_v9 (n := 2) (b := s1) (as := [.ref s1, .int s0, .int (1 : Int32)]) (ar := []) rfl rfl rfl (Nat.le_of_ble_eq_true rfl) rfl rfl (Nat.le_of_ble_eq_true rfl) (of_decide_eq_true c1)) (sF_75 z3) ?_
    rcases db_e hB with ⟨q6, hB⟩ | ⟨q6, hB⟩
    · refine rg_bt (t := 47) (pc' := 25) rfl rfl q6 ?_
      exact sB_115_47 f  _ _ _ h2 _ hB
    · refine rg_bf (t := 47) (pc' := 25) rfl rfl q6 ?_
      refine rg_p rfl rfl ?_
      refine rg_p rfl rfl ?_
      rcases db_e hB with ⟨q7, hB⟩ | ⟨q7, hB⟩
      · refine rg_bt (t := 35) (pc' := 30) rfl rfl q7 ?_
        exact sB_115_35 f  _ _ _ _ h2 _ hB
      · refine rg_bf (t := 35) (pc' := 30) rfl rfl q7 ?_
        refine rg_p rfl rfl ?_
        refine rg_ic (v := (2 : Int32)) rfl (by decide) ?_
        rcases db_e hB with ⟨q8, hB⟩ | ⟨q8, hB⟩
        · refine rg_bt (t := 39) (pc' := 35) rfl rfl q8 ?_
          refine rg_ic (v := (0 : Int32)) rfl (by decide) ?_
          exact sB_115_40 f  _ _ _ _ _ h2 _ hB
        · refine rg_bf (t := 39) (pc' := 35) rfl rfl q8 ?_
          exact sB_115_35 f  _ _ _ _ h2 _ hB
  · subst hB
    exact rg_callX (rg_v9 (n := 2) (b := s1) (as := [.ref s1, .int s0, .int (1 : Int32)]) (ar := []) rfl rfl rfl (Nat.le_of_ble_eq_true rfl) rfl rfl (Nat.le_of_ble_eq_true rfl) (of_decide_eq_true c1)) (sF_75 z3)
def B_115_13 (f : Nat) (l0 : Nat) (l1 : Int32) (l2 : Int32) (s0 : Nat) (h : hp_T) : Option ev_O := (B_115_18 f  l0 l1 l2 (1 : Int32) s0 h)
set_option maxRecDepth 20000 in
theorem sB_115_13 (f : Nat) (l0 : Nat) (l1 : Int32) (l2 : Int32) (s0 : Nat) (h : hp_T) (o : ev_O) (hB : B_115_13 f l0 l1 l2 s0 h = some o) : rg 115 13 [.ref l0, .int l1, .int l2] [.ref s0] h o := by
  unfold B_115_13 at hB
  refine rg_ic (v := (1 : Int32)) rfl (by decide) ?_
  refine rg_p (pc' := 18) rfl rfl ?_
  exact sB_115_18 f  _ _ _ _ _ h _ hB
def F_115 (f : Nat) (a0 : Nat) (a1 : Int32) (a2 : Int32) (h : hp_T) : Option ev_O := (db (ev_c .lt a1 0) (B_115_13 f  a0 a1 a2 a0 h) (dg (decide (hp_k h a0 = some (8, 0))) (db (ev_c .lt a1 (hp_z h a0 19)) (B_115_18 f  a0 a1 a2 (0 : Int32) a0 h) (B_115_13 f  a0 a1 a2 a0 h))))
set_option maxRecDepth 20000 in
theorem sF_115 {f : Nat} {a0 : Nat} {a1 : Int32} {a2 : Int32} {h : hp_T} {o : ev_O} (hB : F_115 f a0 a1 a2 h = some o) : rm 115 [.ref a0, .int a1, .int a2] h o := by
  unfold F_115 at hB
  refine rm_in (L := [.ref a0, .int a1, .int a2]) (Nat.le_of_ble_eq_true rfl) rfl ?_
  refine rg_p rfl rfl ?_
  refine rg_p rfl rfl ?_
  rcases db_e hB with ⟨q1, hB⟩ | ⟨q1, hB⟩
  · refine rg_bt (t := 13) (pc' := 5) rfl rfl q1 ?_
    exact sB_115_13 f  _ _ _ _ h _ hB
  · refine rg_bf (t := 13) (pc' := 5) rfl rfl q1 ?_
    refine rg_p rfl rfl ?_
    refine rg_p rfl rfl ?_
    obtain ⟨c2, hB⟩ := dg_e hB
    refine rg_gz rfl rfl rfl (of_decide_eq_true c2) ?_
    rcases db_e hB with ⟨q3, hB⟩ | ⟨q3, hB⟩
    · refine rg_bt (t := 17) (pc' := 13) rfl rfl q3 ?_
      refine rg_ic (v := (0 : Int32)) rfl (by decide) ?_
      exact sB_115_18 f  _ _ _ _ _ h _ hB
    · refine rg_bf (t := 17) (pc' := 13) rfl rfl q3 ?_
      exact sB_115_13 f  _ _ _ _ h _ hB
-- 116: RouteHouseModel.out(II)I
def B_116_32 (f : Nat) (l0 : Nat) (l1 : Int32) (l2 : Int32) (s0 : Int32) (s1 : Nat) (h : hp_T) : Option ev_O := (dg (decide (hp_k h s1 = some (8, 0))) (di (F_75 f s1 s0 (1 : Int32) h) fun v5 h2 => (db (ev_c .eq v5 0) (dg (decide (hp_k h2 l0 = some (8, 0))) (dp (hp_p h2 l0 14) fun r8 => (dp (hp_p h2 l0 15) fun r10 => (dg (aib 64 h2 r10 l1) (dg (aib 64 h2 r8 ((hp_z h2 r10 (Int32.toNatClampNeg l1)) + l2)) (some (.inl (some (.int (hp_z h2 r8 (Int32.toNatClampNeg ((hp_z h2 r10 (Int32.toNatClampNeg l1)) + l2))))), h2))))))) (some (.inl (some (.int (0 : Int32))), h2)))))
set_option maxRecDepth 20000 in
theorem sB_116_32 (f : Nat) (l0 : Nat) (l1 : Int32) (l2 : Int32) (s0 : Int32) (s1 : Nat) (h : hp_T) (o : ev_O) (hB : B_116_32 f l0 l1 l2 s0 s1 h = some o) : rg 116 32 [.ref l0, .int l1, .int l2] [.int s0, .ref s1] h o := by
  unfold B_116_32 at hB
  refine rg_ic (v := (1 : Int32)) rfl (by decide) ?_
  obtain ⟨c1, hB⟩ := dg_e hB
  rcases di_e hB with ⟨v5, h2, z3, hB⟩ | ⟨q4, h2, z3, hB⟩
  · refine rg_call (rg_v9 (n := 2) (b := s1) (as := [.ref s1, .int s0, .int (1 : Int32)]) (ar := []) rfl rfl rfl (Nat.le_of_ble_eq_true rfl) rfl rfl (Nat.le_of_ble_eq_true rfl) (of_decide_eq_true c1)) (sF_75 z3) ?_
    rcases db_e hB with ⟨q6, hB⟩ | ⟨q6, hB⟩
    · refine rg_bt (t := 41) (pc' := 39) rfl rfl q6 ?_
      refine rg_p rfl rfl ?_
      obtain ⟨c7, hB⟩ := dg_e hB
      obtain ⟨r8, p9, hB⟩ := dp_e hB
      refine rg_gp rfl rfl rfl (of_decide_eq_true c7) p9 ?_
      refine rg_p rfl rfl ?_
      obtain ⟨r10, p11, hB⟩ := dp_e hB
      refine rg_gp rfl rfl rfl (of_decide_eq_true c7) p11 ?_
      refine rg_p rfl rfl ?_
      show rg 116 50 _ _ _ _
      obtain ⟨c12, hB⟩ := dg_e hB
      refine rg_ia rfl (ai_of c12) ?_
      refine rg_p rfl rfl ?_
      refine rg_p rfl rfl ?_
      obtain ⟨c13, hB⟩ := dg_e hB
      refine rg_ia rfl (ai_of c13) ?_
      cases hB
      exact rg_ri rfl rfl rfl
    · refine rg_bf (t := 41) (pc' := 39) rfl rfl q6 ?_
      refine rg_ic (v := (0 : Int32)) rfl (by decide) ?_
      cases hB
      exact rg_ri rfl rfl rfl
  · subst hB
    exact rg_callX (rg_v9 (n := 2) (b := s1) (as := [.ref s1, .int s0, .int (1 : Int32)]) (ar := []) rfl rfl rfl (Nat.le_of_ble_eq_true rfl) rfl rfl (Nat.le_of_ble_eq_true rfl) (of_decide_eq_true c1)) (sF_75 z3)
def B_116_27 (f : Nat) (l0 : Nat) (l1 : Int32) (l2 : Int32) (s0 : Nat) (h : hp_T) : Option ev_O := (B_116_32 f  l0 l1 l2 (1 : Int32) s0 h)
set_option maxRecDepth 20000 in
theorem sB_116_27 (f : Nat) (l0 : Nat) (l1 : Int32) (l2 : Int32) (s0 : Nat) (h : hp_T) (o : ev_O) (hB : B_116_27 f l0 l1 l2 s0 h = some o) : rg 116 27 [.ref l0, .int l1, .int l2] [.ref s0] h o := by
  unfold B_116_27 at hB
  refine rg_ic (v := (1 : Int32)) rfl (by decide) ?_
  refine rg_p (pc' := 32) rfl rfl ?_
  exact sB_116_32 f  _ _ _ _ _ h _ hB
def F_116 (f : Nat) (a0 : Nat) (a1 : Int32) (a2 : Int32) (h : hp_T) : Option ev_O := (db (ev_c .lt a1 0) (B_116_27 f  a0 a1 a2 a0 h) (dg (decide (hp_k h a0 = some (8, 0))) (db (ev_c .ge a1 (hp_z h a0 19)) (B_116_27 f  a0 a1 a2 a0 h) (db (ev_c .lt a2 0) (B_116_27 f  a0 a1 a2 a0 h) (dp (hp_p h a0 16) fun r5 => (dg (aib 64 h r5 a1) (db (ev_c .lt a2 (hp_z h r5 (Int32.toNatClampNeg a1))) (B_116_32 f  a0 a1 a2 (0 : Int32) a0 h) (B_116_27 f  a0 a1 a2 a0 h))))))))
set_option maxRecDepth 20000 in
theorem sF_116 {f : Nat} {a0 : Nat} {a1 : Int32} {a2 : Int32} {h : hp_T} {o : ev_O} (hB : F_116 f a0 a1 a2 h = some o) : rm 116 [.ref a0, .int a1, .int a2] h o := by
  unfold F_116 at hB
  refine rm_in (L := [.ref a0, .int a1, .int a2]) (Nat.le_of_ble_eq_true rfl) rfl ?_
  refine rg_p rfl rfl ?_
  refine rg_p rfl rfl ?_
  rcases db_e hB with ⟨q1, hB⟩ | ⟨q1, hB⟩
  · refine rg_bt (t := 27) (pc' := 5) rfl rfl q1 ?_
    exact sB_116_27 f  _ _ _ _ h _ hB
  · refine rg_bf (t := 27) (pc' := 5) rfl rfl q1 ?_
    refine rg_p rfl rfl ?_
    refine rg_p rfl rfl ?_
    obtain ⟨c2, hB⟩ := dg_e hB
    refine rg_gz rfl rfl rfl (of_decide_eq_true c2) ?_
    rcases db_e hB with ⟨q3, hB⟩ | ⟨q3, hB⟩
    · refine rg_bt (t := 27) (pc' := 13) rfl rfl q3 ?_
      exact sB_116_27 f  _ _ _ _ h _ hB
    · refine rg_bf (t := 27) (pc' := 13) rfl rfl q3 ?_
      refine rg_p rfl rfl ?_
      rcases db_e hB with ⟨q4, hB⟩ | ⟨q4, hB⟩
      · refine rg_bt (t := 27) (pc' := 17) rfl rfl q4 ?_
        exact sB_116_27 f  _ _ _ _ h _ hB
      · refine rg_bf (t := 27) (pc' := 17) rfl rfl q4 ?_
        refine rg_p rfl rfl ?_
        refine rg_p rfl rfl ?_
        obtain ⟨r5, p6, hB⟩ := dp_e hB
        refine rg_gp rfl rfl rfl (of_decide_eq_true c2) p6 ?_
        refine rg_p rfl rfl ?_
        obtain ⟨c7, hB⟩ := dg_e hB
        refine rg_ia rfl (ai_of c7) ?_
        show rg 116 24 _ _ _ _
        rcases db_e hB with ⟨q8, hB⟩ | ⟨q8, hB⟩
        · refine rg_bt (t := 31) (pc' := 27) rfl rfl q8 ?_
          refine rg_ic (v := (0 : Int32)) rfl (by decide) ?_
          exact sB_116_32 f  _ _ _ _ _ h _ hB
        · refine rg_bf (t := 31) (pc' := 27) rfl rfl q8 ?_
          exact sB_116_27 f  _ _ _ _ h _ hB
-- 117: RouteHouseModel.data(I)I
def B_117_27 (f : Nat) (s0 : Int32) (h : hp_T) : Option ev_O := (some (.inl (some (.int s0)), h))
set_option maxRecDepth 20000 in
theorem sB_117_27 (f : Nat) (s0 : Int32) (w0 : Value) (w1 : Value) (h : hp_T) (o : ev_O) (hB : B_117_27 f s0 h = some o) : rg 117 27 [w0, w1] [.int s0] h o := by
  unfold B_117_27 at hB
  cases hB
  exact rg_ri rfl rfl rfl
def B_117_26 (f : Nat) (h : hp_T) : Option ev_O := (B_117_27 f  (-1 : Int32) h)
set_option maxRecDepth 20000 in
theorem sB_117_26 (f : Nat) (w0 : Value) (w1 : Value) (h : hp_T) (o : ev_O) (hB : B_117_26 f  h = some o) : rg 117 26 [w0, w1] [] h o := by
  unfold B_117_26 at hB
  refine rg_ic (v := (-1 : Int32)) rfl (by decide) ?_
  exact sB_117_27 f  _ _ _ h _ hB
def F_117 (f : Nat) (a0 : Nat) (a1 : Int32) (h : hp_T) : Option ev_O := (dg (decide (hp_k h a0 = some (8, 0))) (dl (wz h a0 42 (0 : Int32)) fun h2 => (db (ev_c .lt a1 0) (B_117_26 f   h2) (dg (decide (hp_k h2 a0 = some (8, 0))) (db (ev_c .ge a1 (hp_z h2 a0 26)) (B_117_26 f   h2) (dp (hp_p h2 a0 27) fun r7 => (dg (aib 64 h2 r7 a1) (B_117_27 f  (hp_z h2 r7 (Int32.toNatClampNeg a1)) h2))))))))
set_option maxRecDepth 20000 in
theorem sF_117 {f : Nat} {a0 : Nat} {a1 : Int32} {h : hp_T} {o : ev_O} (hB : F_117 f a0 a1 h = some o) : rm 117 [.ref a0, .int a1] h o := by
  unfold F_117 at hB
  refine rm_in (L := [.ref a0, .int a1]) (Nat.le_of_ble_eq_true rfl) rfl ?_
  refine rg_p rfl rfl ?_
  refine rg_ic (v := (0 : Int32)) rfl (by decide) ?_
  obtain ⟨c1, hB⟩ := dg_e hB
  obtain ⟨h2, e3, hB⟩ := dl_e hB
  refine rg_pi rfl rfl rfl (of_decide_eq_true c1) e3 ?_
  refine rg_p rfl rfl ?_
  rcases db_e hB with ⟨q4, hB⟩ | ⟨q4, hB⟩
  · refine rg_bt (t := 26) (pc' := 9) rfl rfl q4 ?_
    exact sB_117_26 f  _ _ h2 _ hB
  · refine rg_bf (t := 26) (pc' := 9) rfl rfl q4 ?_
    refine rg_p rfl rfl ?_
    refine rg_p rfl rfl ?_
    obtain ⟨c5, hB⟩ := dg_e hB
    refine rg_gz rfl rfl rfl (of_decide_eq_true c5) ?_
    rcases db_e hB with ⟨q6, hB⟩ | ⟨q6, hB⟩
    · refine rg_bt (t := 26) (pc' := 17) rfl rfl q6 ?_
      exact sB_117_26 f  _ _ h2 _ hB
    · refine rg_bf (t := 26) (pc' := 17) rfl rfl q6 ?_
      refine rg_p rfl rfl ?_
      obtain ⟨r7, p8, hB⟩ := dp_e hB
      refine rg_gp rfl rfl rfl (of_decide_eq_true c5) p8 ?_
      refine rg_p rfl rfl ?_
      obtain ⟨c9, hB⟩ := dg_e hB
      refine rg_ia rfl (ai_of c9) ?_
      refine rg_p (pc' := 27) rfl rfl ?_
      exact sB_117_27 f  _ _ _ h2 _ hB
-- 118: RouteHouseModel.about(I)I
def B_118_16 (f : Nat) (l0 : Nat) (l1 : Int32) (s0 : Int32) (s1 : Nat) (h : hp_T) : Option ev_O := (dg (decide (hp_k h s1 = some (8, 0))) (di (F_75 f s1 s0 (1 : Int32) h) fun v5 h2 => (db (ev_c .eq v5 0) (db (decide ((l1).toInt < 0 ∨ 9 < (l1).toInt)) (dg (decide (hp_k h2 l0 = some (8, 0))) (some (.inl (some (.int (hp_z h2 l0 9))), h2))) (db (decide (l1 = (0 : Int32))) (dg (decide (hp_k h2 l0 = some (8, 0))) (some (.inl (some (.int (hp_z h2 l0 7))), h2))) (db (decide (l1 = (1 : Int32))) (dg (decide (hp_k h2 l0 = some (8, 0))) (some (.inl (some (.int (hp_z h2 l0 19))), h2))) (db (decide (l1 = (2 : Int32))) (dg (decide (hp_k h2 l0 = some (8, 0))) (some (.inl (some (.int (hp_z h2 l0 28))), h2))) (db (decide (l1 = (3 : Int32))) (dg (decide (hp_k h2 l0 = some (8, 0))) (some (.inl (some (.int (hp_z h2 l0 20))), h2))) (db (decide (l1 = (4 : Int32))) (dg (decide (hp_k h2 l0 = some (8, 0))) (some (.inl (some (.int (hp_z h2 l0 21))), h2))) (db (decide (l1 = (5 : Int32))) (dg (decide (hp_k h2 l0 = some (8, 0))) (some (.inl (some (.int (hp_z h2 l0 22))), h2))) (db (decide (l1 = (6 : Int32))) (dg (decide (hp_k h2 l0 = some (8, 0))) (some (.inl (some (.int (hp_z h2 l0 23))), h2))) (db (decide (l1 = (7 : Int32))) (dg (decide (hp_k h2 l0 = some (8, 0))) (some (.inl (some (.int (hp_z h2 l0 24))), h2))) (db (decide (l1 = (8 : Int32))) (dg (decide (hp_k h2 l0 = some (8, 0))) (some (.inl (some (.int (hp_z h2 l0 25))), h2))) (db (decide (l1 = (9 : Int32))) (dg (decide (hp_k h2 l0 = some (8, 0))) (some (.inl (some (.int (hp_z h2 l0 26))), h2))) none))))))))))) (some (.inl (some (.int (0 : Int32))), h2)))))
set_option maxRecDepth 20000 in
theorem sB_118_16 (f : Nat) (l0 : Nat) (l1 : Int32) (s0 : Int32) (s1 : Nat) (h : hp_T) (o : ev_O) (hB : B_118_16 f l0 l1 s0 s1 h = some o) : rg 118 16 [.ref l0, .int l1] [.int s0, .ref s1] h o := by
  unfold B_118_16 at hB
  refine rg_ic (v := (1 : Int32)) rfl (by decide) ?_
  obtain ⟨c1, hB⟩ := dg_e hB
  rcases di_e hB with ⟨v5, h2, z3, hB⟩ | ⟨q4, h2, z3, hB⟩
  · refine rg_call (rg_v9 (n := 2) (b := s1) (as := [.ref s1, .int s0, .int (1 : Int32)]) (ar := []) rfl rfl rfl (Nat.le_of_ble_eq_true rfl) rfl rfl (Nat.le_of_ble_eq_true rfl) (of_decide_eq_true c1)) (sF_75 z3) ?_
    rcases db_e hB with ⟨q6, hB⟩ | ⟨q6, hB⟩
    · refine rg_bt (t := 25) (pc' := 23) rfl rfl q6 ?_
      refine rg_p rfl rfl ?_
      rcases db_e hB with ⟨q8, hB⟩ | ⟨q8, hB⟩
      · refine rg_p (pc' := 130) rfl (by simp only [ev_p]; rw [if_pos (of_decide_eq_true q8)]; rfl) ?_
        refine rg_p rfl rfl ?_
        obtain ⟨c9, hB⟩ := dg_e hB
        refine rg_gz rfl rfl rfl (of_decide_eq_true c9) ?_
        cases hB
        exact rg_ri rfl rfl rfl
      · skip
        rcases db_e hB with ⟨q10, hB⟩ | ⟨q10, hB⟩
        · refine rg_p (pc' := 80) rfl (by rw [of_decide_eq_true q10]; rfl) ?_
          refine rg_p rfl rfl ?_
          obtain ⟨c11, hB⟩ := dg_e hB
          refine rg_gz rfl rfl rfl (of_decide_eq_true c11) ?_
          cases hB
          exact rg_ri rfl rfl rfl
        · skip
          rcases db_e hB with ⟨q12, hB⟩ | ⟨q12, hB⟩
          · refine rg_p (pc' := 85) rfl (by rw [of_decide_eq_true q12]; rfl) ?_
            refine rg_p rfl rfl ?_
            obtain ⟨c13, hB⟩ := dg_e hB
            refine rg_gz rfl rfl rfl (of_decide_eq_true c13) ?_
            cases hB
            exact rg_ri rfl rfl rfl
          · skip
            rcases db_e hB with ⟨q14, hB⟩ | ⟨q14, hB⟩
            · refine rg_p (pc' := 90) rfl (by rw [of_decide_eq_true q14]; rfl) ?_
              refine rg_p rfl rfl ?_
              obtain ⟨c15, hB⟩ := dg_e hB
              refine rg_gz rfl rfl rfl (of_decide_eq_true c15) ?_
              cases hB
              exact rg_ri rfl rfl rfl
            · skip
              rcases db_e hB with ⟨q16, hB⟩ | ⟨q16, hB⟩
              · refine rg_p (pc' := 95) rfl (by rw [of_decide_eq_true q16]; rfl) ?_
                refine rg_p rfl rfl ?_
                obtain ⟨c17, hB⟩ := dg_e hB
                refine rg_gz rfl rfl rfl (of_decide_eq_true c17) ?_
                cases hB
                exact rg_ri rfl rfl rfl
              · skip
                rcases db_e hB with ⟨q18, hB⟩ | ⟨q18, hB⟩
                · refine rg_p (pc' := 100) rfl (by rw [of_decide_eq_true q18]; rfl) ?_
                  refine rg_p rfl rfl ?_
                  obtain ⟨c19, hB⟩ := dg_e hB
                  refine rg_gz rfl rfl rfl (of_decide_eq_true c19) ?_
                  cases hB
                  exact rg_ri rfl rfl rfl
                · skip
                  rcases db_e hB with ⟨q20, hB⟩ | ⟨q20, hB⟩
                  · refine rg_p (pc' := 105) rfl (by rw [of_decide_eq_true q20]; rfl) ?_
                    refine rg_p rfl rfl ?_
                    obtain ⟨c21, hB⟩ := dg_e hB
                    refine rg_gz rfl rfl rfl (of_decide_eq_true c21) ?_
                    cases hB
                    exact rg_ri rfl rfl rfl
                  · skip
                    rcases db_e hB with ⟨q22, hB⟩ | ⟨q22, hB⟩
                    · refine rg_p (pc' := 110) rfl (by rw [of_decide_eq_true q22]; rfl) ?_
                      refine rg_p rfl rfl ?_
                      obtain ⟨c23, hB⟩ := dg_e hB
                      refine rg_gz rfl rfl rfl (of_decide_eq_true c23) ?_
                      cases hB
                      exact rg_ri rfl rfl rfl
                    · skip
                      rcases db_e hB with ⟨q24, hB⟩ | ⟨q24, hB⟩
                      · refine rg_p (pc' := 115) rfl (by rw [of_decide_eq_true q24]; rfl) ?_
                        refine rg_p rfl rfl ?_
                        obtain ⟨c25, hB⟩ := dg_e hB
                        refine rg_gz rfl rfl rfl (of_decide_eq_true c25) ?_
                        cases hB
                        exact rg_ri rfl rfl rfl
                      · skip
                        rcases db_e hB with ⟨q26, hB⟩ | ⟨q26, hB⟩
                        · refine rg_p (pc' := 120) rfl (by rw [of_decide_eq_true q26]; rfl) ?_
                          refine rg_p rfl rfl ?_
                          obtain ⟨c27, hB⟩ := dg_e hB
                          refine rg_gz rfl rfl rfl (of_decide_eq_true c27) ?_
                          cases hB
                          exact rg_ri rfl rfl rfl
                        · skip
                          rcases db_e hB with ⟨q28, hB⟩ | ⟨q28, hB⟩
                          · refine rg_p (pc' := 125) rfl (by rw [of_decide_eq_true q28]; rfl) ?_
                            refine rg_p rfl rfl ?_
                            obtain ⟨c29, hB⟩ := dg_e hB
                            refine rg_gz rfl rfl rfl (of_decide_eq_true c29) ?_
                            cases hB
                            exact rg_ri rfl rfl rfl
                          · skip
                            cases hB
    · refine rg_bf (t := 25) (pc' := 23) rfl rfl q6 ?_
      refine rg_ic (v := (0 : Int32)) rfl (by decide) ?_
      cases hB
      exact rg_ri rfl rfl rfl
  · subst hB
    exact rg_callX (rg_v9 (n := 2) (b := s1) (as := [.ref s1, .int s0, .int (1 : Int32)]) (ar := []) rfl rfl rfl (Nat.le_of_ble_eq_true rfl) rfl rfl (Nat.le_of_ble_eq_true rfl) (of_decide_eq_true c1)) (sF_75 z3)
def B_118_11 (f : Nat) (l0 : Nat) (l1 : Int32) (s0 : Nat) (h : hp_T) : Option ev_O := (B_118_16 f  l0 l1 (1 : Int32) s0 h)
set_option maxRecDepth 20000 in
theorem sB_118_11 (f : Nat) (l0 : Nat) (l1 : Int32) (s0 : Nat) (h : hp_T) (o : ev_O) (hB : B_118_11 f l0 l1 s0 h = some o) : rg 118 11 [.ref l0, .int l1] [.ref s0] h o := by
  unfold B_118_11 at hB
  refine rg_ic (v := (1 : Int32)) rfl (by decide) ?_
  refine rg_p (pc' := 16) rfl rfl ?_
  exact sB_118_16 f  _ _ _ _ h _ hB
def F_118 (f : Nat) (a0 : Nat) (a1 : Int32) (h : hp_T) : Option ev_O := (db (ev_c .lt a1 0) (B_118_11 f  a0 a1 a0 h) (db (ev_c .le a1 (10 : Int32)) (B_118_16 f  a0 a1 (0 : Int32) a0 h) (B_118_11 f  a0 a1 a0 h)))
set_option maxRecDepth 20000 in
theorem sF_118 {f : Nat} {a0 : Nat} {a1 : Int32} {h : hp_T} {o : ev_O} (hB : F_118 f a0 a1 h = some o) : rm 118 [.ref a0, .int a1] h o := by
  unfold F_118 at hB
  refine rm_in (L := [.ref a0, .int a1]) (Nat.le_of_ble_eq_true rfl) rfl ?_
  refine rg_p rfl rfl ?_
  refine rg_p rfl rfl ?_
  rcases db_e hB with ⟨q1, hB⟩ | ⟨q1, hB⟩
  · refine rg_bt (t := 11) (pc' := 5) rfl rfl q1 ?_
    exact sB_118_11 f  _ _ _ h _ hB
  · refine rg_bf (t := 11) (pc' := 5) rfl rfl q1 ?_
    refine rg_p rfl rfl ?_
    refine rg_bi (v := (10 : Int32)) rfl (by decide) ?_
    rcases db_e hB with ⟨q2, hB⟩ | ⟨q2, hB⟩
    · refine rg_bt (t := 15) (pc' := 11) rfl rfl q2 ?_
      refine rg_ic (v := (0 : Int32)) rfl (by decide) ?_
      exact sB_118_16 f  _ _ _ _ h _ hB
    · refine rg_bf (t := 15) (pc' := 11) rfl rfl q2 ?_
      exact sB_118_11 f  _ _ _ h _ hB
