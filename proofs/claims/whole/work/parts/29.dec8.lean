-- 106: RouteHouseModel.isOwn(I)Z
def B_106_24 (f : Nat) (C2 : Nat → Int32 → Int32 → hp_T → Option ev_O) (l0 : Nat) (l1 : Int32) (l2 : Int32) (h : hp_T) : Option ev_O := (C2 l0 l1 (l2 + (1 : Int32)) h)
set_option maxRecDepth 20000 in
theorem sB_106_24 (f : Nat) (C2 : Nat → Int32 → Int32 → hp_T → Option ev_O) (hC2 : ∀ (l0 : Nat) (l1 : Int32) (l2 : Int32) (h : hp_T) (o : ev_O), C2 l0 l1 l2 h = some o → rg 106 2 [.ref l0, .int l1, .int l2] [] h o) (l0 : Nat) (l1 : Int32) (l2 : Int32) (h : hp_T) (o : ev_O) (hB : B_106_24 f C2 l0 l1 l2 h = some o) : rg 106 24 [.ref l0, .int l1, .int l2] [] h o := by
  unfold B_106_24 at hB
  refine rg_p (L' := [.ref l0, .int l1, .int (l2 + (1 : Int32))]) rfl rfl ?_
  refine rg_p (pc' := 2) rfl rfl ?_
  exact hC2 _ _ _ h _ hB
def B_106_2 (f : Nat) : Nat → Nat → Int32 → Int32 → hp_T → Option ev_O
  | 0, _, _, _, _ => none
  | g + 1, l0, l1, l2, h => (db (ev_c .ge l2 (8 : Int32)) (some (.inl (some (.int (0 : Int32))), h)) (db (ev_c .eq l1 0) (B_106_24 f (B_106_2 f g) l0 l1 l2 h) (dg (decide (hp_k h l0 = some (8, 0))) (dp (hp_p h l0 0) fun r4 => (dg (aib 64 h r4 l2) (db (ev_c .ne (hp_z h r4 (Int32.toNatClampNeg l2)) l1) (B_106_24 f (B_106_2 f g) l0 l1 l2 h) (some (.inl (some (.int (1 : Int32))), h))))))))
set_option maxRecDepth 20000 in
theorem sB_106_2 (f : Nat) : ∀ (g : Nat) (l0 : Nat) (l1 : Int32) (l2 : Int32) (h : hp_T) (o : ev_O), B_106_2 f g l0 l1 l2 h = some o → rg 106 2 [.ref l0, .int l1, .int l2] [] h o := by
  intro g
  induction g with
  | zero =>
    intro l0 l1 l2  h o hB
    rw [B_106_2] at hB
    cases hB
  | succ g ih =>
    intro l0 l1 l2  h o hB
    rw [B_106_2] at hB
    refine rg_p rfl rfl ?_
    refine rg_bi (v := (8 : Int32)) rfl (by decide) ?_
    rcases db_e hB with ⟨q1, hB⟩ | ⟨q1, hB⟩
    · refine rg_bt (t := 30) (pc' := 8) rfl rfl q1 ?_
      refine rg_ic (v := (0 : Int32)) rfl (by decide) ?_
      cases hB
      exact rg_ri rfl rfl (dz_n dz_0)
    · refine rg_bf (t := 30) (pc' := 8) rfl rfl q1 ?_
      refine rg_p rfl rfl ?_
      rcases db_e hB with ⟨q2, hB⟩ | ⟨q2, hB⟩
      · refine rg_bt (t := 24) (pc' := 12) rfl rfl q2 ?_
        exact sB_106_24 f (B_106_2 f g) ih _ _ _ h _ hB
      · refine rg_bf (t := 24) (pc' := 12) rfl rfl q2 ?_
        refine rg_p rfl rfl ?_
        obtain ⟨c3, hB⟩ := dg_e hB
        obtain ⟨r4, p5, hB⟩ := dp_e hB
        refine rg_gp rfl rfl rfl (of_decide_eq_true c3) p5 ?_
        refine rg_p rfl rfl ?_
        obtain ⟨c6, hB⟩ := dg_e hB
        refine rg_ia rfl (ai_of c6) ?_
        refine rg_p rfl rfl ?_
        show rg 106 19 _ _ _ _
        rcases db_e hB with ⟨q7, hB⟩ | ⟨q7, hB⟩
        · refine rg_bt (t := 24) (pc' := 22) rfl rfl q7 ?_
          exact sB_106_24 f (B_106_2 f g) ih _ _ _ h _ hB
        · refine rg_bf (t := 24) (pc' := 22) rfl rfl q7 ?_
          refine rg_ic (v := (1 : Int32)) rfl (by decide) ?_
          cases hB
          exact rg_ri rfl rfl (dz_n dz_1)
def F_106 (f : Nat) (a0 : Nat) (a1 : Int32) (h : hp_T) : Option ev_O := (B_106_2 f  f a0 a1 (0 : Int32) h)
set_option maxRecDepth 20000 in
theorem sF_106 {f : Nat} {a0 : Nat} {a1 : Int32} {h : hp_T} {o : ev_O} (hB : F_106 f a0 a1 h = some o) : rm 106 [.ref a0, .int a1] h o := by
  unfold F_106 at hB
  refine rm_in (L := [.ref a0, .int a1, .null]) (Nat.le_of_ble_eq_true rfl) rfl ?_
  refine rg_ic (v := (0 : Int32)) rfl (by decide) ?_
  refine rg_p (L' := [.ref a0, .int a1, .int (0 : Int32)]) rfl rfl ?_
  exact sB_106_2 f  f _ _ _ h _ hB
-- 107: RouteHouseModel.wrongOption(I)I
def B_107_86 (f : Nat) (h : hp_T) : Option ev_O := (some (.inl (some (.int (-1 : Int32))), h))
set_option maxRecDepth 20000 in
theorem sB_107_86 (f : Nat) (w0 : Value) (w1 : Value) (w2 : Value) (w3 : Value) (h : hp_T) (o : ev_O) (hB : B_107_86 f  h = some o) : rg 107 86 [w0, w1, w2, w3] [] h o := by
  unfold B_107_86 at hB
  refine rg_ic (v := (-1 : Int32)) rfl (by decide) ?_
  cases hB
  exact rg_ri rfl rfl rfl
def B_107_77 (f : Nat) (C3 : Nat → Int32 → Int32 → hp_T → Option ev_O) (l2 : Int32) (h : hp_T) : Option ev_O := (some (.inl (some (.int l2)), h))
set_option maxRecDepth 20000 in
theorem sB_107_77 (f : Nat) (C3 : Nat → Int32 → Int32 → hp_T → Option ev_O) (hC3 : ∀ (l0 : Nat) (l1 : Int32) (l2 : Int32) (w3 : Value) (h : hp_T) (o : ev_O), C3 l0 l1 l2 h = some o → rg 107 3 [.ref l0, .int l1, .int l2, w3] [] h o) (l2 : Int32) (w0 : Value) (w1 : Value) (w3 : Value) (h : hp_T) (o : ev_O) (hB : B_107_77 f C3 l2 h = some o) : rg 107 77 [w0, w1, .int l2, w3] [] h o := by
  unfold B_107_77 at hB
  refine rg_p rfl rfl ?_
  cases hB
  exact rg_ri rfl rfl rfl
def B_107_70 (f : Nat) (C3 : Nat → Int32 → Int32 → hp_T → Option ev_O) (l0 : Nat) (l1 : Int32) (l2 : Int32) (l3 : Int32) (h : hp_T) : Option ev_O := (db (ev_c .le (l2 + l3) l1) (C3 l0 l1 (l2 + l3) h) (B_107_77 f C3 l2 h))
set_option maxRecDepth 20000 in
theorem sB_107_70 (f : Nat) (C3 : Nat → Int32 → Int32 → hp_T → Option ev_O) (hC3 : ∀ (l0 : Nat) (l1 : Int32) (l2 : Int32) (w3 : Value) (h : hp_T) (o : ev_O), C3 l0 l1 l2 h = some o → rg 107 3 [.ref l0, .int l1, .int l2, w3] [] h o) (l0 : Nat) (l1 : Int32) (l2 : Int32) (l3 : Int32) (h : hp_T) (o : ev_O) (hB : B_107_70 f C3 l0 l1 l2 l3 h = some o) : rg 107 70 [.ref l0, .int l1, .int l2, .int l3] [] h o := by
  unfold B_107_70 at hB
  refine rg_p rfl rfl ?_
  refine rg_p rfl rfl ?_
  refine rg_p rfl rfl ?_
  refine rg_p rfl rfl ?_
  rcases db_e hB with ⟨q1, hB⟩ | ⟨q1, hB⟩
  · refine rg_bt (t := 79) (pc' := 77) rfl rfl q1 ?_
    refine rg_p rfl rfl ?_
    refine rg_p rfl rfl ?_
    refine rg_p rfl rfl ?_
    refine rg_p (L' := [.ref l0, .int l1, .int (l2 + l3), .int l3]) rfl rfl ?_
    refine rg_p (pc' := 3) rfl rfl ?_
    exact hC3 _ _ _ _ h _ hB
  · refine rg_bf (t := 79) (pc' := 77) rfl rfl q1 ?_
    exact sB_107_77 f C3 hC3 _ _ _ _ h _ hB
def B_107_50 (f : Nat) (C3 : Nat → Int32 → Int32 → hp_T → Option ev_O) (l0 : Nat) (l1 : Int32) (l2 : Int32) (s0 : Int32) (h : hp_T) : Option ev_O := (db (ev_c .eq s0 0) (B_107_77 f C3 l2 h) (db (ev_c .ne s0 (1 : Int32)) (B_107_70 f C3 l0 l1 l2 s0 h) (dg (decide (hp_k h l0 = some (8, 0))) (dp (hp_p h l0 10) fun r4 => (dg (aib 64 h r4 l2) (db (ev_c .ne (hp_z h r4 (Int32.toNatClampNeg l2)) (1 : Int32)) (B_107_77 f C3 l2 h) (B_107_70 f C3 l0 l1 l2 s0 h)))))))
set_option maxRecDepth 20000 in
theorem sB_107_50 (f : Nat) (C3 : Nat → Int32 → Int32 → hp_T → Option ev_O) (hC3 : ∀ (l0 : Nat) (l1 : Int32) (l2 : Int32) (w3 : Value) (h : hp_T) (o : ev_O), C3 l0 l1 l2 h = some o → rg 107 3 [.ref l0, .int l1, .int l2, w3] [] h o) (l0 : Nat) (l1 : Int32) (l2 : Int32) (s0 : Int32) (w3 : Value) (h : hp_T) (o : ev_O) (hB : B_107_50 f C3 l0 l1 l2 s0 h = some o) : rg 107 50 [.ref l0, .int l1, .int l2, w3] [.int s0] h o := by
  unfold B_107_50 at hB
  refine rg_p (L' := [.ref l0, .int l1, .int l2, .int s0]) rfl rfl ?_
  refine rg_p rfl rfl ?_
  rcases db_e hB with ⟨q1, hB⟩ | ⟨q1, hB⟩
  · refine rg_bt (t := 77) (pc' := 55) rfl rfl q1 ?_
    exact sB_107_77 f C3 hC3 _ _ _ _ h _ hB
  · refine rg_bf (t := 77) (pc' := 55) rfl rfl q1 ?_
    refine rg_p rfl rfl ?_
    refine rg_ic (v := (1 : Int32)) rfl (by decide) ?_
    rcases db_e hB with ⟨q2, hB⟩ | ⟨q2, hB⟩
    · refine rg_bt (t := 70) (pc' := 60) rfl rfl q2 ?_
      exact sB_107_70 f C3 hC3 _ _ _ _ h _ hB
    · refine rg_bf (t := 70) (pc' := 60) rfl rfl q2 ?_
      refine rg_p rfl rfl ?_
      obtain ⟨c3, hB⟩ := dg_e hB
      obtain ⟨r4, p5, hB⟩ := dp_e hB
      refine rg_gp rfl rfl rfl (of_decide_eq_true c3) p5 ?_
      refine rg_p rfl rfl ?_
      obtain ⟨c6, hB⟩ := dg_e hB
      refine rg_ia rfl (ai_of c6) ?_
      refine rg_ic (v := (1 : Int32)) rfl (by decide) ?_
      show rg 107 67 _ _ _ _
      rcases db_e hB with ⟨q7, hB⟩ | ⟨q7, hB⟩
      · refine rg_bt (t := 77) (pc' := 70) rfl rfl q7 ?_
        exact sB_107_77 f C3 hC3 _ _ _ _ h _ hB
      · refine rg_bf (t := 77) (pc' := 70) rfl rfl q7 ?_
        exact sB_107_70 f C3 hC3 _ _ _ _ h _ hB
def B_107_3 (f : Nat) : Nat → Nat → Int32 → Int32 → hp_T → Option ev_O
  | 0, _, _, _, _ => none
  | g + 1, l0, l1, l2, h => (db (ev_c .ge l2 l1) (B_107_86 f   h) (dg (decide (hp_k h l0 = some (8, 0))) (dp (hp_p h l0 10) fun r3 => (dg (aib 64 h r3 l2) (db (ev_c .eq (hp_z h r3 (Int32.toNatClampNeg l2)) 0) (B_107_86 f   h) (db (ev_c .ne (hp_z h r3 (Int32.toNatClampNeg l2)) (1 : Int32)) (db (ev_c .ge (l2 + (1 : Int32)) l1) (B_107_50 f (B_107_3 f g) l0 l1 l2 (0 : Int32) h) (dg (aib 64 h r3 (l2 + (1 : Int32))) (B_107_50 f (B_107_3 f g) l0 l1 l2 (hp_z h r3 (Int32.toNatClampNeg (l2 + (1 : Int32)))) h))) (B_107_50 f (B_107_3 f g) l0 l1 l2 (1 : Int32) h)))))))
set_option maxRecDepth 20000 in
theorem sB_107_3 (f : Nat) : ∀ (g : Nat) (l0 : Nat) (l1 : Int32) (l2 : Int32) (w3 : Value) (h : hp_T) (o : ev_O), B_107_3 f g l0 l1 l2 h = some o → rg 107 3 [.ref l0, .int l1, .int l2, w3] [] h o := by
  intro g
  induction g with
  | zero =>
    intro l0 l1 l2 w3 h o hB
    rw [B_107_3] at hB
    cases hB
  | succ g ih =>
    intro l0 l1 l2 w3 h o hB
    rw [B_107_3] at hB
    refine rg_p rfl rfl ?_
    refine rg_p rfl rfl ?_
    rcases db_e hB with ⟨q1, hB⟩ | ⟨q1, hB⟩
    · refine rg_bt (t := 86) (pc' := 8) rfl rfl q1 ?_
      exact sB_107_86 f  _ _ _ _ h _ hB
    · refine rg_bf (t := 86) (pc' := 8) rfl rfl q1 ?_
      refine rg_p rfl rfl ?_
      obtain ⟨c2, hB⟩ := dg_e hB
      obtain ⟨r3, p4, hB⟩ := dp_e hB
      refine rg_gp rfl rfl rfl (of_decide_eq_true c2) p4 ?_
      refine rg_p rfl rfl ?_
      obtain ⟨c5, hB⟩ := dg_e hB
      refine rg_ia rfl (ai_of c5) ?_
      rcases db_e hB with ⟨q6, hB⟩ | ⟨q6, hB⟩
      · refine rg_bt (t := 86) (pc' := 17) rfl rfl q6 ?_
        exact sB_107_86 f  _ _ _ _ h _ hB
      · refine rg_bf (t := 86) (pc' := 17) rfl rfl q6 ?_
        refine rg_p rfl rfl ?_
        refine rg_gp rfl rfl rfl (of_decide_eq_true c2) p4 ?_
        refine rg_p rfl rfl ?_
        refine rg_ia rfl (ai_of c5) ?_
        refine rg_ic (v := (1 : Int32)) rfl (by decide) ?_
        show rg 107 24 _ _ _ _
        rcases db_e hB with ⟨q7, hB⟩ | ⟨q7, hB⟩
        · refine rg_bt (t := 31) (pc' := 27) rfl rfl q7 ?_
          refine rg_p rfl rfl ?_
          refine rg_ic (v := (1 : Int32)) rfl (by decide) ?_
          refine rg_p rfl rfl ?_
          refine rg_p rfl rfl ?_
          rcases db_e hB with ⟨q8, hB⟩ | ⟨q8, hB⟩
          · refine rg_bt (t := 49) (pc' := 38) rfl rfl q8 ?_
            refine rg_ic (v := (0 : Int32)) rfl (by decide) ?_
            exact sB_107_50 f (B_107_3 f g) ih _ _ _ _ _ h _ hB
          · refine rg_bf (t := 49) (pc' := 38) rfl rfl q8 ?_
            refine rg_p rfl rfl ?_
            refine rg_gp rfl rfl rfl (of_decide_eq_true c2) p4 ?_
            refine rg_p rfl rfl ?_
            refine rg_ic (v := (1 : Int32)) rfl (by decide) ?_
            refine rg_p rfl rfl ?_
            show rg 107 45 _ _ _ _
            obtain ⟨c9, hB⟩ := dg_e hB
            refine rg_ia rfl (ai_of c9) ?_
            refine rg_p (pc' := 50) rfl rfl ?_
            exact sB_107_50 f (B_107_3 f g) ih _ _ _ _ _ h _ hB
        · refine rg_bf (t := 31) (pc' := 27) rfl rfl q7 ?_
          refine rg_ic (v := (1 : Int32)) rfl (by decide) ?_
          refine rg_p (pc' := 50) rfl rfl ?_
          exact sB_107_50 f (B_107_3 f g) ih _ _ _ _ _ h _ hB
def F_107 (f : Nat) (a0 : Nat) (a1 : Int32) (h : hp_T) : Option ev_O := (B_107_3 f  f a0 a1 (20 : Int32) h)
set_option maxRecDepth 20000 in
theorem sF_107 {f : Nat} {a0 : Nat} {a1 : Int32} {h : hp_T} {o : ev_O} (hB : F_107 f a0 a1 h = some o) : rm 107 [.ref a0, .int a1] h o := by
  unfold F_107 at hB
  refine rm_in (L := [.ref a0, .int a1, .null, .null]) (Nat.le_of_ble_eq_true rfl) rfl ?_
  refine rg_bi (v := (20 : Int32)) rfl (by decide) ?_
  refine rg_p (L' := [.ref a0, .int a1, .int (20 : Int32), .null]) rfl rfl ?_
  exact sB_107_3 f  f _ _ _ _ h _ hB
-- 108: RouteHouseModel.isStrange(I)Z
def B_108_18 (f : Nat) (s0 : Int32) (h : hp_T) : Option ev_O := (dg (dzb s0) (some (.inl (some (.int s0)), h)))
set_option maxRecDepth 20000 in
theorem sB_108_18 (f : Nat) (s0 : Int32) (w0 : Value) (h : hp_T) (o : ev_O) (hB : B_108_18 f s0 h = some o) : rg 108 18 [w0] [.int s0] h o := by
  unfold B_108_18 at hB
  obtain ⟨c1, hB⟩ := dg_e hB
  cases hB
  exact rg_ri rfl rfl (dz_n (dz_of c1))
def B_108_13 (f : Nat) (h : hp_T) : Option ev_O := (B_108_18 f  (1 : Int32) h)
set_option maxRecDepth 20000 in
theorem sB_108_13 (f : Nat) (w0 : Value) (h : hp_T) (o : ev_O) (hB : B_108_13 f  h = some o) : rg 108 13 [w0] [] h o := by
  unfold B_108_13 at hB
  refine rg_ic (v := (1 : Int32)) rfl (by decide) ?_
  refine rg_p (pc' := 18) rfl rfl ?_
  exact sB_108_18 f  _ _ h _ hB
def F_108 (f : Nat) (a0 : Int32) (h : hp_T) : Option ev_O := (db (ev_c .eq a0 (127 : Int32)) (B_108_13 f   h) (db (ev_c .le a0 (223 : Int32)) (B_108_18 f  (0 : Int32) h) (B_108_13 f   h)))
set_option maxRecDepth 20000 in
theorem sF_108 {f : Nat} {a0 : Int32} {h : hp_T} {o : ev_O} (hB : F_108 f a0 h = some o) : rm 108 [.int a0] h o := by
  unfold F_108 at hB
  refine rm_in (L := [.int a0]) (Nat.le_of_ble_eq_true rfl) rfl ?_
  refine rg_p rfl rfl ?_
  refine rg_bi (v := (127 : Int32)) rfl (by decide) ?_
  rcases db_e hB with ⟨q1, hB⟩ | ⟨q1, hB⟩
  · refine rg_bt (t := 13) (pc' := 6) rfl rfl q1 ?_
    exact sB_108_13 f  _ h _ hB
  · refine rg_bf (t := 13) (pc' := 6) rfl rfl q1 ?_
    refine rg_p rfl rfl ?_
    refine rg_si (v := (223 : Int32)) rfl (by decide) ?_
    rcases db_e hB with ⟨q2, hB⟩ | ⟨q2, hB⟩
    · refine rg_bt (t := 17) (pc' := 13) rfl rfl q2 ?_
      refine rg_ic (v := (0 : Int32)) rfl (by decide) ?_
      exact sB_108_18 f  _ _ h _ hB
    · refine rg_bf (t := 17) (pc' := 13) rfl rfl q2 ?_
      exact sB_108_13 f  _ h _ hB
-- 109: RouteHouseModel.own(I)I
def B_109_167 (f : Nat) : Nat → Nat → Int32 → Int32 → Int32 → hp_T → Option ev_O
  | 0, _, _, _, _, _ => none
  | g + 1, l0, l2, l3, l4, h => (db (ev_c .ge l4 l3) (some (.inl (some (.int (13 : Int32))), h)) (dg (decide (hp_k h l0 = some (8, 0))) (dp (hp_p h l0 27) fun r3 => (dp (hp_p h l0 10) fun r5 => (dg (aib 64 h r5 (l2 + l4)) (dg (aib 64 h r3 l4) (dl (wz h r3 (Int32.toNatClampNeg l4) (hp_z h r5 (Int32.toNatClampNeg (l2 + l4)))) fun h9 => ((B_109_167 f g) l0 l2 l3 (l4 + (1 : Int32)) h9))))))))
set_option maxRecDepth 20000 in
theorem sB_109_167 (f : Nat) : ∀ (g : Nat) (l0 : Nat) (l2 : Int32) (l3 : Int32) (l4 : Int32) (w1 : Value) (h : hp_T) (o : ev_O), B_109_167 f g l0 l2 l3 l4 h = some o → rg 109 167 [.ref l0, w1, .int l2, .int l3, .int l4] [] h o := by
  intro g
  induction g with
  | zero =>
    intro l0 l2 l3 l4 w1 h o hB
    rw [B_109_167] at hB
    cases hB
  | succ g ih =>
    intro l0 l2 l3 l4 w1 h o hB
    rw [B_109_167] at hB
    refine rg_p rfl rfl ?_
    refine rg_p rfl rfl ?_
    rcases db_e hB with ⟨q1, hB⟩ | ⟨q1, hB⟩
    · refine rg_bt (t := 195) (pc' := 173) rfl rfl q1 ?_
      refine rg_bi (v := (13 : Int32)) rfl (by decide) ?_
      cases hB
      exact rg_ri rfl rfl rfl
    · refine rg_bf (t := 195) (pc' := 173) rfl rfl q1 ?_
      refine rg_p rfl rfl ?_
      obtain ⟨c2, hB⟩ := dg_e hB
      obtain ⟨r3, p4, hB⟩ := dp_e hB
      refine rg_gp rfl rfl rfl (of_decide_eq_true c2) p4 ?_
      refine rg_p rfl rfl ?_
      refine rg_p rfl rfl ?_
      obtain ⟨r5, p6, hB⟩ := dp_e hB
      refine rg_gp rfl rfl rfl (of_decide_eq_true c2) p6 ?_
      show rg 109 183 _ _ _ _
      refine rg_p rfl rfl ?_
      refine rg_p rfl rfl ?_
      refine rg_p rfl rfl ?_
      obtain ⟨c7, hB⟩ := dg_e hB
      refine rg_ia rfl (ai_of c7) ?_
      obtain ⟨c8, hB⟩ := dg_e hB
      obtain ⟨h9, e10, hB⟩ := dl_e hB
      refine rg_is rfl (ai_of c8) e10 ?_
      refine rg_p (L' := [.ref l0, w1, .int l2, .int l3, .int (l4 + (1 : Int32))]) rfl rfl ?_
      show rg 109 192 _ _ _ _
      refine rg_p (pc' := 167) rfl rfl ?_
      exact ih _ _ _ _ _ h9 _ hB
def B_109_99 (f : Nat) (s0 : Int32) (h : hp_T) : Option ev_O := (some (.inl (some (.int s0)), h))
set_option maxRecDepth 20000 in
theorem sB_109_99 (f : Nat) (s0 : Int32) (w0 : Value) (w1 : Value) (w2 : Value) (w3 : Value) (w4 : Value) (h : hp_T) (o : ev_O) (hB : B_109_99 f s0 h = some o) : rg 109 99 [w0, w1, w2, w3, w4] [.int s0] h o := by
  unfold B_109_99 at hB
  cases hB
  exact rg_ri rfl rfl rfl
def B_109_87 (f : Nat) (l4 : Int32) (h : hp_T) : Option ev_O := (db (ev_c .eq l4 0) (B_109_99 f  (12 : Int32) h) (B_109_99 f  (11 : Int32) h))
set_option maxRecDepth 20000 in
theorem sB_109_87 (f : Nat) (l4 : Int32) (w0 : Value) (w1 : Value) (w2 : Value) (w3 : Value) (h : hp_T) (o : ev_O) (hB : B_109_87 f l4 h = some o) : rg 109 87 [w0, w1, w2, w3, .int l4] [] h o := by
  unfold B_109_87 at hB
  refine rg_p rfl rfl ?_
  rcases db_e hB with ⟨q1, hB⟩ | ⟨q1, hB⟩
  · refine rg_bt (t := 97) (pc' := 92) rfl rfl q1 ?_
    refine rg_bi (v := (12 : Int32)) rfl (by decide) ?_
    exact sB_109_99 f  _ _ _ _ _ _ h _ hB
  · refine rg_bf (t := 97) (pc' := 92) rfl rfl q1 ?_
    refine rg_bi (v := (11 : Int32)) rfl (by decide) ?_
    refine rg_p (pc' := 99) rfl rfl ?_
    exact sB_109_99 f  _ _ _ _ _ _ h _ hB
def B_109_75 (f : Nat) (l0 : Nat) (l1 : Int32) (s0 : Int32) (h : hp_T) : Option ev_O := (db (ev_c .eq s0 0) (B_109_87 f  s0 h) (dg (decide (hp_k h l0 = some (8, 0))) (dv (F_99 f l0 l1 h) fun h3 => (B_109_87 f  s0 h3))))
set_option maxRecDepth 20000 in
theorem sB_109_75 (f : Nat) (l0 : Nat) (l1 : Int32) (s0 : Int32) (w2 : Value) (w3 : Value) (w4 : Value) (h : hp_T) (o : ev_O) (hB : B_109_75 f l0 l1 s0 h = some o) : rg 109 75 [.ref l0, .int l1, w2, w3, w4] [.int s0] h o := by
  unfold B_109_75 at hB
  refine rg_p (L' := [.ref l0, .int l1, w2, w3, .int s0]) rfl rfl ?_
  refine rg_p rfl rfl ?_
  rcases db_e hB with ⟨q1, hB⟩ | ⟨q1, hB⟩
  · refine rg_bt (t := 87) (pc' := 82) rfl rfl q1 ?_
    exact sB_109_87 f  _ _ _ _ _ h _ hB
  · refine rg_bf (t := 87) (pc' := 82) rfl rfl q1 ?_
    refine rg_p rfl rfl ?_
    refine rg_p rfl rfl ?_
    obtain ⟨c2, hB⟩ := dg_e hB
    rcases dv_e hB with ⟨h3, z4, hB⟩ | ⟨q5, h3, z4, hB⟩
    · refine rg_call (rg_v9 (n := 1) (b := l0) (as := [.ref l0, .int l1]) (ar := []) rfl rfl rfl (Nat.le_of_ble_eq_true rfl) rfl rfl (Nat.le_of_ble_eq_true rfl) (of_decide_eq_true c2)) (sF_99 z4) ?_
      exact sB_109_87 f  _ _ _ _ _ h3 _ hB
    · subst hB
      exact rg_callX (rg_v9 (n := 1) (b := l0) (as := [.ref l0, .int l1]) (ar := []) rfl rfl rfl (Nat.le_of_ble_eq_true rfl) rfl rfl (Nat.le_of_ble_eq_true rfl) (of_decide_eq_true c2)) (sF_99 z4)
def B_109_74 (f : Nat) (l0 : Nat) (l1 : Int32) (h : hp_T) : Option ev_O := (B_109_75 f  l0 l1 (0 : Int32) h)
set_option maxRecDepth 20000 in
theorem sB_109_74 (f : Nat) (l0 : Nat) (l1 : Int32) (w2 : Value) (w3 : Value) (w4 : Value) (h : hp_T) (o : ev_O) (hB : B_109_74 f l0 l1 h = some o) : rg 109 74 [.ref l0, .int l1, w2, w3, w4] [] h o := by
  unfold B_109_74 at hB
  refine rg_ic (v := (0 : Int32)) rfl (by decide) ?_
  exact sB_109_75 f  _ _ _ _ _ _ h _ hB
def F_109 (f : Nat) (a0 : Nat) (a1 : Int32) (h : hp_T) : Option ev_O := (dg (decide (hp_k h a0 = some (8, 0))) (dp (hp_p h a0 10) fun r2 => (dg (aib 64 h r2 (0 : Int32)) (dg (aib 64 h r2 (9 : Int32)) (db (ev_c .ne (hp_z h r2 (Int32.toNatClampNeg (9 : Int32))) (1 : Int32)) (db (ev_c .eq (hp_z h r2 (Int32.toNatClampNeg (9 : Int32))) (17 : Int32)) (dl (wz h a0 23 ((hp_z h a0 23) + (1 : Int32))) fun h8 => (dg (decide (hp_k h8 a0 = some (8, 0))) (dp (hp_p h8 a0 10) fun r11 => (di (F_90 f r11 (12 : Int32) h8) fun v16 h13 => (dg (decide (hp_k h13 a0 = some (8, 0))) (dl (wz h13 a0 24 v16) fun h18 => (dg (decide (hp_k h18 a0 = some (8, 0))) (dp (hp_p h18 a0 10) fun r21 => (di (F_90 f r21 (16 : Int32) h18) fun v26 h23 => (dg (decide (hp_k h23 a0 = some (8, 0))) (dl (wz h23 a0 25 v26) fun h28 => (dg (decide (hp_k h28 a0 = some (8, 0))) (dl (wz h28 a0 26 ((hp_z h a0 12) - ((4 : Int32) * ((hp_z h r2 (Int32.toNatClampNeg (0 : Int32))) &&& (15 : Int32))))) fun h31 => (B_109_167 f  f a0 ((4 : Int32) * ((hp_z h r2 (Int32.toNatClampNeg (0 : Int32))) &&& (15 : Int32))) ((hp_z h a0 12) - ((4 : Int32) * ((hp_z h r2 (Int32.toNatClampNeg (0 : Int32))) &&& (15 : Int32)))) (0 : Int32) h31)))))))))))))) (dv (F_98 f a0 a1 (3 : Int32) (2 : Int32) (0 : Int32) h) fun h33 => (some (.inl (some (.int (14 : Int32))), h33)))) (db (ev_c .lt ((hp_z h a0 12) - ((4 : Int32) * ((hp_z h r2 (Int32.toNatClampNeg (0 : Int32))) &&& (15 : Int32)))) (8 : Int32)) (B_109_74 f  a0 a1 h) (dg (aib 64 h r2 ((4 : Int32) * ((hp_z h r2 (Int32.toNatClampNeg (0 : Int32))) &&& (15 : Int32)))) (db (ev_c .ne (hp_z h r2 (Int32.toNatClampNeg ((4 : Int32) * ((hp_z h r2 (Int32.toNatClampNeg (0 : Int32))) &&& (15 : Int32))))) (8 : Int32)) (B_109_74 f  a0 a1 h) (di (F_87 f r2 ((4 : Int32) * ((hp_z h r2 (Int32.toNatClampNeg (0 : Int32))) &&& (15 : Int32))) ((hp_z h a0 12) - ((4 : Int32) * ((hp_z h r2 (Int32.toNatClampNeg (0 : Int32))) &&& (15 : Int32)))) (2 : Int32) h) fun v42 h39 => (dg (decide (hp_k h39 a0 = some (8, 0))) (dp (hp_p h39 a0 10) fun r44 => (di (F_89 f r44 (((4 : Int32) * ((hp_z h r2 (Int32.toNatClampNeg (0 : Int32))) &&& (15 : Int32))) + (2 : Int32)) h39) fun v49 h46 => (db (ev_c .ne v42 v49) (B_109_74 f  a0 a1 h46) (B_109_75 f  a0 a1 (1 : Int32) h46))))))))))))))
set_option maxRecDepth 20000 in
theorem sF_109 {f : Nat} {a0 : Nat} {a1 : Int32} {h : hp_T} {o : ev_O} (hB : F_109 f a0 a1 h = some o) : rm 109 [.ref a0, .int a1] h o := by
  unfold F_109 at hB
  refine rm_in (L := [.ref a0, .int a1, .null, .null, .null]) (Nat.le_of_ble_eq_true rfl) rfl ?_
  refine rg_ic (v := (4 : Int32)) rfl (by decide) ?_
  refine rg_p rfl rfl ?_
  obtain ⟨c1, hB⟩ := dg_e hB
  obtain ⟨r2, p3, hB⟩ := dp_e hB
  refine rg_gp rfl rfl rfl (of_decide_eq_true c1) p3 ?_
  refine rg_ic (v := (0 : Int32)) rfl (by decide) ?_
  obtain ⟨c4, hB⟩ := dg_e hB
  refine rg_ia rfl (ai_of c4) ?_
  show rg 109 7 _ _ _ _
  refine rg_bi (v := (15 : Int32)) rfl (by decide) ?_
  refine rg_p rfl rfl ?_
  refine rg_p rfl rfl ?_
  refine rg_p (L' := [.ref a0, .int a1, .int ((4 : Int32) * ((hp_z h r2 (Int32.toNatClampNeg (0 : Int32))) &&& (15 : Int32))), .null, .null]) rfl rfl ?_
  refine rg_p rfl rfl ?_
  refine rg_gz rfl rfl rfl (of_decide_eq_true c1) ?_
  show rg 109 16 _ _ _ _
  refine rg_p rfl rfl ?_
  refine rg_p rfl rfl ?_
  refine rg_p (L' := [.ref a0, .int a1, .int ((4 : Int32) * ((hp_z h r2 (Int32.toNatClampNeg (0 : Int32))) &&& (15 : Int32))), .int ((hp_z h a0 12) - ((4 : Int32) * ((hp_z h r2 (Int32.toNatClampNeg (0 : Int32))) &&& (15 : Int32)))), .null]) rfl rfl ?_
  refine rg_p rfl rfl ?_
  refine rg_gp rfl rfl rfl (of_decide_eq_true c1) p3 ?_
  refine rg_bi (v := (9 : Int32)) rfl (by decide) ?_
  show rg 109 25 _ _ _ _
  obtain ⟨c5, hB⟩ := dg_e hB
  refine rg_ia rfl (ai_of c5) ?_
  refine rg_ic (v := (1 : Int32)) rfl (by decide) ?_
  rcases db_e hB with ⟨q6, hB⟩ | ⟨q6, hB⟩
  · refine rg_bt (t := 100) (pc' := 30) rfl rfl q6 ?_
    refine rg_p rfl rfl ?_
    refine rg_gp rfl rfl rfl (of_decide_eq_true c1) p3 ?_
    refine rg_bi (v := (9 : Int32)) rfl (by decide) ?_
    refine rg_ia rfl (ai_of c5) ?_
    refine rg_bi (v := (17 : Int32)) rfl (by decide) ?_
    show rg 109 109 _ _ _ _
    rcases db_e hB with ⟨q7, hB⟩ | ⟨q7, hB⟩
    · refine rg_bt (t := 123) (pc' := 112) rfl rfl q7 ?_
      refine rg_p rfl rfl ?_
      refine rg_p rfl rfl ?_
      refine rg_gz rfl rfl rfl (of_decide_eq_true c1) ?_
      refine rg_ic (v := (1 : Int32)) rfl (by decide) ?_
      refine rg_p rfl rfl ?_
      show rg 109 130 _ _ _ _
      obtain ⟨h8, e9, hB⟩ := dl_e hB
      refine rg_pi rfl rfl rfl (of_decide_eq_true c1) e9 ?_
      refine rg_p rfl rfl ?_
      refine rg_p rfl rfl ?_
      obtain ⟨c10, hB⟩ := dg_e hB
      obtain ⟨r11, p12, hB⟩ := dp_e hB
      refine rg_gp rfl rfl rfl (of_decide_eq_true c10) p12 ?_
      refine rg_bi (v := (12 : Int32)) rfl (by decide) ?_
      rcases di_e hB with ⟨v16, h13, z14, hB⟩ | ⟨q15, h13, z14, hB⟩
      · refine rg_call (rg_s9 (n := 2) (as := [.ref r11, .int (12 : Int32)]) (ar := []) rfl (rg_s0 rfl) rfl rfl (Nat.le_of_ble_eq_true rfl) rfl rfl (Nat.le_of_ble_eq_true rfl)) (sF_90 z14) ?_
        obtain ⟨c17, hB⟩ := dg_e hB
        obtain ⟨h18, e19, hB⟩ := dl_e hB
        refine rg_pi rfl rfl rfl (of_decide_eq_true c17) e19 ?_
        refine rg_p rfl rfl ?_
        refine rg_p rfl rfl ?_
        obtain ⟨c20, hB⟩ := dg_e hB
        obtain ⟨r21, p22, hB⟩ := dp_e hB
        refine rg_gp rfl rfl rfl (of_decide_eq_true c20) p22 ?_
        refine rg_bi (v := (16 : Int32)) rfl (by decide) ?_
        show rg 109 153 _ _ _ _
        rcases di_e hB with ⟨v26, h23, z24, hB⟩ | ⟨q25, h23, z24, hB⟩
        · refine rg_call (rg_s9 (n := 2) (as := [.ref r21, .int (16 : Int32)]) (ar := []) rfl (rg_s0 rfl) rfl rfl (Nat.le_of_ble_eq_true rfl) rfl rfl (Nat.le_of_ble_eq_true rfl)) (sF_90 z24) ?_
          obtain ⟨c27, hB⟩ := dg_e hB
          obtain ⟨h28, e29, hB⟩ := dl_e hB
          refine rg_pi rfl rfl rfl (of_decide_eq_true c27) e29 ?_
          refine rg_p rfl rfl ?_
          refine rg_p rfl rfl ?_
          obtain ⟨c30, hB⟩ := dg_e hB
          obtain ⟨h31, e32, hB⟩ := dl_e hB
          refine rg_pi rfl rfl rfl (of_decide_eq_true c30) e32 ?_
          refine rg_ic (v := (0 : Int32)) rfl (by decide) ?_
          show rg 109 165 _ _ _ _
          refine rg_p (L' := [.ref a0, .int a1, .int ((4 : Int32) * ((hp_z h r2 (Int32.toNatClampNeg (0 : Int32))) &&& (15 : Int32))), .int ((hp_z h a0 12) - ((4 : Int32) * ((hp_z h r2 (Int32.toNatClampNeg (0 : Int32))) &&& (15 : Int32)))), .int (0 : Int32)]) rfl rfl ?_
          exact sB_109_167 f  f _ _ _ _ _ h31 _ hB
        · subst hB
          exact rg_callX (rg_s9 (n := 2) (as := [.ref r21, .int (16 : Int32)]) (ar := []) rfl (rg_s0 rfl) rfl rfl (Nat.le_of_ble_eq_true rfl) rfl rfl (Nat.le_of_ble_eq_true rfl)) (sF_90 z24)
      · subst hB
        exact rg_callX (rg_s9 (n := 2) (as := [.ref r11, .int (12 : Int32)]) (ar := []) rfl (rg_s0 rfl) rfl rfl (Nat.le_of_ble_eq_true rfl) rfl rfl (Nat.le_of_ble_eq_true rfl)) (sF_90 z14)
    · refine rg_bf (t := 123) (pc' := 112) rfl rfl q7 ?_
      refine rg_p rfl rfl ?_
      refine rg_p rfl rfl ?_
      refine rg_ic (v := (3 : Int32)) rfl (by decide) ?_
      refine rg_ic (v := (2 : Int32)) rfl (by decide) ?_
      refine rg_ic (v := (0 : Int32)) rfl (by decide) ?_
      show rg 109 117 _ _ _ _
      rcases dv_e hB with ⟨h33, z34, hB⟩ | ⟨q35, h33, z34, hB⟩
      · refine rg_call (rg_v9 (n := 4) (b := a0) (as := [.ref a0, .int a1, .int (3 : Int32), .int (2 : Int32), .int (0 : Int32)]) (ar := []) rfl rfl rfl (Nat.le_of_ble_eq_true rfl) rfl rfl (Nat.le_of_ble_eq_true rfl) (of_decide_eq_true c1)) (sF_98 z34) ?_
        refine rg_bi (v := (14 : Int32)) rfl (by decide) ?_
        cases hB
        exact rg_ri rfl rfl rfl
      · subst hB
        exact rg_callX (rg_v9 (n := 4) (b := a0) (as := [.ref a0, .int a1, .int (3 : Int32), .int (2 : Int32), .int (0 : Int32)]) (ar := []) rfl rfl rfl (Nat.le_of_ble_eq_true rfl) rfl rfl (Nat.le_of_ble_eq_true rfl) (of_decide_eq_true c1)) (sF_98 z34)
  · refine rg_bf (t := 100) (pc' := 30) rfl rfl q6 ?_
    refine rg_p rfl rfl ?_
    refine rg_bi (v := (8 : Int32)) rfl (by decide) ?_
    rcases db_e hB with ⟨q36, hB⟩ | ⟨q36, hB⟩
    · refine rg_bt (t := 74) (pc' := 36) rfl rfl q36 ?_
      exact sB_109_74 f  _ _ _ _ _ h _ hB
    · refine rg_bf (t := 74) (pc' := 36) rfl rfl q36 ?_
      refine rg_p rfl rfl ?_
      refine rg_gp rfl rfl rfl (of_decide_eq_true c1) p3 ?_
      refine rg_p rfl rfl ?_
      obtain ⟨c37, hB⟩ := dg_e hB
      refine rg_ia rfl (ai_of c37) ?_
      refine rg_bi (v := (8 : Int32)) rfl (by decide) ?_
      show rg 109 44 _ _ _ _
      rcases db_e hB with ⟨q38, hB⟩ | ⟨q38, hB⟩
      · refine rg_bt (t := 74) (pc' := 47) rfl rfl q38 ?_
        exact sB_109_74 f  _ _ _ _ _ h _ hB
      · refine rg_bf (t := 74) (pc' := 47) rfl rfl q38 ?_
        refine rg_p rfl rfl ?_
        refine rg_gp rfl rfl rfl (of_decide_eq_true c1) p3 ?_
        refine rg_p rfl rfl ?_
        refine rg_p rfl rfl ?_
        refine rg_ic (v := (2 : Int32)) rfl (by decide) ?_
        show rg 109 54 _ _ _ _
        rcases di_e hB with ⟨v42, h39, z40, hB⟩ | ⟨q41, h39, z40, hB⟩
        · refine rg_call (rg_s9 (n := 4) (as := [.ref r2, .int ((4 : Int32) * ((hp_z h r2 (Int32.toNatClampNeg (0 : Int32))) &&& (15 : Int32))), .int ((hp_z h a0 12) - ((4 : Int32) * ((hp_z h r2 (Int32.toNatClampNeg (0 : Int32))) &&& (15 : Int32)))), .int (2 : Int32)]) (ar := []) rfl (rg_s0 rfl) rfl rfl (Nat.le_of_ble_eq_true rfl) rfl rfl (Nat.le_of_ble_eq_true rfl)) (sF_87 z40) ?_
          refine rg_p rfl rfl ?_
          obtain ⟨c43, hB⟩ := dg_e hB
          obtain ⟨r44, p45, hB⟩ := dp_e hB
          refine rg_gp rfl rfl rfl (of_decide_eq_true c43) p45 ?_
          refine rg_p rfl rfl ?_
          refine rg_ic (v := (2 : Int32)) rfl (by decide) ?_
          refine rg_p rfl rfl ?_
          show rg 109 64 _ _ _ _
          rcases di_e hB with ⟨v49, h46, z47, hB⟩ | ⟨q48, h46, z47, hB⟩
          · refine rg_call (rg_s9 (n := 2) (as := [.ref r44, .int (((4 : Int32) * ((hp_z h r2 (Int32.toNatClampNeg (0 : Int32))) &&& (15 : Int32))) + (2 : Int32))]) (ar := []) rfl (rg_s0 rfl) rfl rfl (Nat.le_of_ble_eq_true rfl) rfl rfl (Nat.le_of_ble_eq_true rfl)) (sF_89 z47) ?_
            rcases db_e hB with ⟨q50, hB⟩ | ⟨q50, hB⟩
            · refine rg_bt (t := 74) (pc' := 70) rfl rfl q50 ?_
              exact sB_109_74 f  _ _ _ _ _ h46 _ hB
            · refine rg_bf (t := 74) (pc' := 70) rfl rfl q50 ?_
              refine rg_ic (v := (1 : Int32)) rfl (by decide) ?_
              refine rg_p (pc' := 75) rfl rfl ?_
              exact sB_109_75 f  _ _ _ _ _ _ h46 _ hB
          · subst hB
            exact rg_callX (rg_s9 (n := 2) (as := [.ref r44, .int (((4 : Int32) * ((hp_z h r2 (Int32.toNatClampNeg (0 : Int32))) &&& (15 : Int32))) + (2 : Int32))]) (ar := []) rfl (rg_s0 rfl) rfl rfl (Nat.le_of_ble_eq_true rfl) rfl rfl (Nat.le_of_ble_eq_true rfl)) (sF_89 z47)
        · subst hB
          exact rg_callX (rg_s9 (n := 4) (as := [.ref r2, .int ((4 : Int32) * ((hp_z h r2 (Int32.toNatClampNeg (0 : Int32))) &&& (15 : Int32))), .int ((hp_z h a0 12) - ((4 : Int32) * ((hp_z h r2 (Int32.toNatClampNeg (0 : Int32))) &&& (15 : Int32)))), .int (2 : Int32)]) (ar := []) rfl (rg_s0 rfl) rfl rfl (Nat.le_of_ble_eq_true rfl) rfl rfl (Nat.le_of_ble_eq_true rfl)) (sF_87 z40)
-- 110: RouteHouseModel.pass0(I)I
def B_110_225 (f : Nat) (s0 : Int32) (h : hp_T) : Option ev_O := (some (.inl (some (.int s0)), h))
set_option maxRecDepth 20000 in
theorem sB_110_225 (f : Nat) (s0 : Int32) (w0 : Value) (w1 : Value) (w2 : Value) (w3 : Value) (h : hp_T) (o : ev_O) (hB : B_110_225 f s0 h = some o) : rg 110 225 [w0, w1, w2, w3] [.int s0] h o := by
  unfold B_110_225 at hB
  cases hB
  exact rg_ri rfl rfl rfl
def B_110_211 (f : Nat) (l3 : Int32) (s0 : Int32) (s1 : Int32) (s2 : Nat) (h : hp_T) : Option ev_O := (dg (decide (hp_k h s2 = some (8, 0))) (dv (F_95 f s2 s1 s0 h) fun h2 => (db (ev_c .eq l3 0) (B_110_225 f  (25 : Int32) h2) (B_110_225 f  (26 : Int32) h2))))
set_option maxRecDepth 20000 in
theorem sB_110_211 (f : Nat) (l3 : Int32) (s0 : Int32) (s1 : Int32) (s2 : Nat) (w0 : Value) (w1 : Value) (w2 : Value) (h : hp_T) (o : ev_O) (hB : B_110_211 f l3 s0 s1 s2 h = some o) : rg 110 211 [w0, w1, w2, .int l3] [.int s0, .int s1, .ref s2] h o := by
  unfold B_110_211 at hB
  obtain ⟨c1, hB⟩ := dg_e hB
  rcases dv_e hB with ⟨h2, z3, hB⟩ | ⟨q4, h2, z3, hB⟩
  · refine rg_call (rg_v9 (n := 2) (b := s2) (as := [.ref s2, .int s1, .int s0]) (ar := []) rfl rfl rfl (Nat.le_of_ble_eq_true rfl) rfl rfl (Nat.le_of_ble_eq_true rfl) (of_decide_eq_true c1)) (sF_95 z3) ?_
    refine rg_p rfl rfl ?_
    rcases db_e hB with ⟨q5, hB⟩ | ⟨q5, hB⟩
    · refine rg_bt (t := 223) (pc' := 218) rfl rfl q5 ?_
      refine rg_bi (v := (25 : Int32)) rfl (by decide) ?_
      exact sB_110_225 f  _ _ _ _ _ h2 _ hB
    · refine rg_bf (t := 223) (pc' := 218) rfl rfl q5 ?_
      refine rg_bi (v := (26 : Int32)) rfl (by decide) ?_
      refine rg_p (pc' := 225) rfl rfl ?_
      exact sB_110_225 f  _ _ _ _ _ h2 _ hB
  · subst hB
    exact rg_callX (rg_v9 (n := 2) (b := s2) (as := [.ref s2, .int s1, .int s0]) (ar := []) rfl rfl rfl (Nat.le_of_ble_eq_true rfl) rfl rfl (Nat.le_of_ble_eq_true rfl) (of_decide_eq_true c1)) (sF_95 z3)
def B_110_166 (f : Nat) (l0 : Nat) (l2 : Int32) (l3 : Int32) (h : hp_T) : Option ev_O := (dg (decide (hp_k h l0 = some (8, 0))) (dp (hp_p h l0 10) fun r2 => (dg (aib 64 h r2 (8 : Int32)) (dl (wz h r2 (Int32.toNatClampNeg (8 : Int32)) ((hp_z h r2 (Int32.toNatClampNeg (8 : Int32))) - (1 : Int32))) fun h5 => (dg (decide (hp_k h5 l0 = some (8, 0))) (dp (hp_p h5 l0 5) fun r8 => (dg (aib 64 h5 r8 l2) (dp (hp_p h5 l0 6) fun r11 => (dg (aib 64 h5 r11 l2) (db (ev_c .ne (hp_z h5 r11 (Int32.toNatClampNeg l2)) 0) (B_110_211 f  l3 (hp_z h5 r11 (Int32.toNatClampNeg l2)) (hp_z h5 r8 (Int32.toNatClampNeg l2)) l0 h5) (dp (hp_p h5 l0 10) fun r15 => (di (F_90 f r15 (16 : Int32) h5) fun v20 h17 => (B_110_211 f  l3 v20 (hp_z h5 r8 (Int32.toNatClampNeg l2)) l0 h17)))))))))))))
set_option maxRecDepth 20000 in
theorem sB_110_166 (f : Nat) (l0 : Nat) (l2 : Int32) (l3 : Int32) (w1 : Value) (h : hp_T) (o : ev_O) (hB : B_110_166 f l0 l2 l3 h = some o) : rg 110 166 [.ref l0, w1, .int l2, .int l3] [] h o := by
  unfold B_110_166 at hB
  refine rg_p rfl rfl ?_
  obtain ⟨c1, hB⟩ := dg_e hB
  obtain ⟨r2, p3, hB⟩ := dp_e hB
  refine rg_gp rfl rfl rfl (of_decide_eq_true c1) p3 ?_
  refine rg_bi (v := (8 : Int32)) rfl (by decide) ?_
  refine rg_p rfl rfl ?_
  obtain ⟨c4, hB⟩ := dg_e hB
  refine rg_ia rfl (ai_of c4) ?_
  show rg 110 174 _ _ _ _
  refine rg_ic (v := (1 : Int32)) rfl (by decide) ?_
  refine rg_p rfl rfl ?_
  obtain ⟨h5, e6, hB⟩ := dl_e hB
  refine rg_is rfl (ai_of c4) e6 ?_
  refine rg_p rfl rfl ?_
  refine rg_p rfl rfl ?_
  obtain ⟨c7, hB⟩ := dg_e hB
  obtain ⟨r8, p9, hB⟩ := dp_e hB
  refine rg_gp rfl rfl rfl (of_decide_eq_true c7) p9 ?_
  show rg 110 182 _ _ _ _
  refine rg_p rfl rfl ?_
  obtain ⟨c10, hB⟩ := dg_e hB
  refine rg_ia rfl (ai_of c10) ?_
  refine rg_p rfl rfl ?_
  obtain ⟨r11, p12, hB⟩ := dp_e hB
  refine rg_gp rfl rfl rfl (of_decide_eq_true c7) p12 ?_
  refine rg_p rfl rfl ?_
  obtain ⟨c13, hB⟩ := dg_e hB
  refine rg_ia rfl (ai_of c13) ?_
  show rg 110 190 _ _ _ _
  rcases db_e hB with ⟨q14, hB⟩ | ⟨q14, hB⟩
  · refine rg_bt (t := 205) (pc' := 193) rfl rfl q14 ?_
    refine rg_p rfl rfl ?_
    refine rg_gp rfl rfl rfl (of_decide_eq_true c7) p12 ?_
    refine rg_p rfl rfl ?_
    refine rg_ia rfl (ai_of c13) ?_
    exact sB_110_211 f  _ _ _ _ _ _ _ h5 _ hB
  · refine rg_bf (t := 205) (pc' := 193) rfl rfl q14 ?_
    refine rg_p rfl rfl ?_
    obtain ⟨r15, p16, hB⟩ := dp_e hB
    refine rg_gp rfl rfl rfl (of_decide_eq_true c7) p16 ?_
    refine rg_bi (v := (16 : Int32)) rfl (by decide) ?_
    rcases di_e hB with ⟨v20, h17, z18, hB⟩ | ⟨q19, h17, z18, hB⟩
    · refine rg_call (rg_s9 (n := 2) (as := [.ref r15, .int (16 : Int32)]) (ar := []) rfl (rg_s0 rfl) rfl rfl (Nat.le_of_ble_eq_true rfl) rfl rfl (Nat.le_of_ble_eq_true rfl)) (sF_90 z18) ?_
      refine rg_p (pc' := 211) rfl rfl ?_
      exact sB_110_211 f  _ _ _ _ _ _ _ h17 _ hB
    · subst hB
      exact rg_callX (rg_s9 (n := 2) (as := [.ref r15, .int (16 : Int32)]) (ar := []) rfl (rg_s0 rfl) rfl rfl (Nat.le_of_ble_eq_true rfl) rfl rfl (Nat.le_of_ble_eq_true rfl)) (sF_90 z18)
def B_110_127 (f : Nat) (l0 : Nat) (l1 : Int32) (l2 : Int32) (s0 : Int32) (h : hp_T) : Option ev_O := (db (ev_c .eq s0 0) (B_110_166 f  l0 l2 s0 h) (dg (decide (hp_k h l0 = some (8, 0))) (dp (hp_p h l0 10) fun r3 => (dg (aib 64 h r3 (6 : Int32)) (db (ev_c .le ((hp_z h r3 (Int32.toNatClampNeg (6 : Int32))) &&& (64 : Int32)) 0) (B_110_166 f  l0 l2 s0 h) (dp (hp_p h l0 1) fun r7 => (dp (hp_p h l0 5) fun r9 => (dg (aib 64 h r9 l2) (dg (aib 64 h r7 (hp_z h r9 (Int32.toNatClampNeg l2))) (dv (F_98 f l0 l1 (3 : Int32) (4 : Int32) (hp_z h r7 (Int32.toNatClampNeg (hp_z h r9 (Int32.toNatClampNeg l2)))) h) fun h13 => (some (.inl (some (.int (24 : Int32))), h13))))))))))))
set_option maxRecDepth 20000 in
theorem sB_110_127 (f : Nat) (l0 : Nat) (l1 : Int32) (l2 : Int32) (s0 : Int32) (w3 : Value) (h : hp_T) (o : ev_O) (hB : B_110_127 f l0 l1 l2 s0 h = some o) : rg 110 127 [.ref l0, .int l1, .int l2, w3] [.int s0] h o := by
  unfold B_110_127 at hB
  refine rg_p (L' := [.ref l0, .int l1, .int l2, .int s0]) rfl rfl ?_
  refine rg_p rfl rfl ?_
  rcases db_e hB with ⟨q1, hB⟩ | ⟨q1, hB⟩
  · refine rg_bt (t := 166) (pc' := 132) rfl rfl q1 ?_
    exact sB_110_166 f  _ _ _ _ h _ hB
  · refine rg_bf (t := 166) (pc' := 132) rfl rfl q1 ?_
    refine rg_p rfl rfl ?_
    obtain ⟨c2, hB⟩ := dg_e hB
    obtain ⟨r3, p4, hB⟩ := dp_e hB
    refine rg_gp rfl rfl rfl (of_decide_eq_true c2) p4 ?_
    refine rg_bi (v := (6 : Int32)) rfl (by decide) ?_
    obtain ⟨c5, hB⟩ := dg_e hB
    refine rg_ia rfl (ai_of c5) ?_
    refine rg_bi (v := (64 : Int32)) rfl (by decide) ?_
    show rg 110 141 _ _ _ _
    refine rg_p rfl rfl ?_
    rcases db_e hB with ⟨q6, hB⟩ | ⟨q6, hB⟩
    · refine rg_bt (t := 166) (pc' := 145) rfl rfl q6 ?_
      exact sB_110_166 f  _ _ _ _ h _ hB
    · refine rg_bf (t := 166) (pc' := 145) rfl rfl q6 ?_
      refine rg_p rfl rfl ?_
      refine rg_p rfl rfl ?_
      refine rg_ic (v := (3 : Int32)) rfl (by decide) ?_
      refine rg_ic (v := (4 : Int32)) rfl (by decide) ?_
      refine rg_p rfl rfl ?_
      show rg 110 150 _ _ _ _
      obtain ⟨r7, p8, hB⟩ := dp_e hB
      refine rg_gp rfl rfl rfl (of_decide_eq_true c2) p8 ?_
      refine rg_p rfl rfl ?_
      obtain ⟨r9, p10, hB⟩ := dp_e hB
      refine rg_gp rfl rfl rfl (of_decide_eq_true c2) p10 ?_
      refine rg_p rfl rfl ?_
      obtain ⟨c11, hB⟩ := dg_e hB
      refine rg_ia rfl (ai_of c11) ?_
      obtain ⟨c12, hB⟩ := dg_e hB
      refine rg_ia rfl (ai_of c12) ?_
      show rg 110 160 _ _ _ _
      rcases dv_e hB with ⟨h13, z14, hB⟩ | ⟨q15, h13, z14, hB⟩
      · refine rg_call (rg_v9 (n := 4) (b := l0) (as := [.ref l0, .int l1, .int (3 : Int32), .int (4 : Int32), .int (hp_z h r7 (Int32.toNatClampNeg (hp_z h r9 (Int32.toNatClampNeg l2))))]) (ar := []) rfl rfl rfl (Nat.le_of_ble_eq_true rfl) rfl rfl (Nat.le_of_ble_eq_true rfl) (of_decide_eq_true c2)) (sF_98 z14) ?_
        refine rg_bi (v := (24 : Int32)) rfl (by decide) ?_
        cases hB
        exact rg_ri rfl rfl rfl
      · subst hB
        exact rg_callX (rg_v9 (n := 4) (b := l0) (as := [.ref l0, .int l1, .int (3 : Int32), .int (4 : Int32), .int (hp_z h r7 (Int32.toNatClampNeg (hp_z h r9 (Int32.toNatClampNeg l2))))]) (ar := []) rfl rfl rfl (Nat.le_of_ble_eq_true rfl) rfl rfl (Nat.le_of_ble_eq_true rfl) (of_decide_eq_true c2)) (sF_98 z14)
def B_110_23 (f : Nat) (h : hp_T) : Option ev_O := (some (.inl (some (.int (20 : Int32))), h))
set_option maxRecDepth 20000 in
theorem sB_110_23 (f : Nat) (w0 : Value) (w1 : Value) (w2 : Value) (w3 : Value) (h : hp_T) (o : ev_O) (hB : B_110_23 f  h = some o) : rg 110 23 [w0, w1, w2, w3] [] h o := by
  unfold B_110_23 at hB
  refine rg_bi (v := (20 : Int32)) rfl (by decide) ?_
  cases hB
  exact rg_ri rfl rfl rfl
def F_110 (f : Nat) (a0 : Nat) (a1 : Int32) (h : hp_T) : Option ev_O := (dg (decide (hp_k h a0 = some (8, 0))) (dp (hp_p h a0 10) fun r2 => (dg (aib 64 h r2 (16 : Int32)) (db (ev_c .eq (hp_z h r2 (Int32.toNatClampNeg (16 : Int32))) 0) (B_110_23 f   h) (di (F_108 f (hp_z h r2 (Int32.toNatClampNeg (16 : Int32))) h) fun v9 h6 => (db (ev_c .eq v9 0) (dg (decide (hp_k h6 a0 = some (8, 0))) (dp (hp_p h6 a0 10) fun r12 => (dg (aib 64 h6 r12 (8 : Int32)) (db (ev_c .ge (hp_z h6 r12 (Int32.toNatClampNeg (8 : Int32))) (2 : Int32)) (di (F_90 f r12 (16 : Int32) h6) fun v19 h16 => (dg (decide (hp_k h16 a0 = some (8, 0))) (di (F_83 f a0 v19 h16) fun v24 h21 => (db (ev_c .ne v24 (-1 : Int32)) (dg (decide (hp_k h21 a0 = some (8, 0))) (dp (hp_p h21 a0 2) fun r27 => (dp (hp_p h21 a0 5) fun r29 => (dg (aib 64 h21 r29 v24) (dg (aib 66 h21 r27 (hp_z h21 r29 (Int32.toNatClampNeg v24))) (db (ev_c .eq (hp_z h21 r27 (Int32.toNatClampNeg (hp_z h21 r29 (Int32.toNatClampNeg v24)))) 0) (dp (hp_p h21 a0 1) fun r34 => (dg (aib 64 h21 r34 (hp_z h21 r29 (Int32.toNatClampNeg v24))) (db (ev_c .le (hp_z h21 a0 12) (hp_z h21 r34 (Int32.toNatClampNeg (hp_z h21 r29 (Int32.toNatClampNeg v24))))) (B_110_127 f  a0 a1 v24 (0 : Int32) h21) (B_110_127 f  a0 a1 v24 (1 : Int32) h21)))) (dv (F_98 f a0 a1 (3 : Int32) (1 : Int32) (0 : Int32) h21) fun h38 => (some (.inl (some (.int (23 : Int32))), h38))))))))) (dg (decide (hp_k h21 a0 = some (8, 0))) (dv (F_98 f a0 a1 (3 : Int32) (0 : Int32) (0 : Int32) h21) fun h42 => (some (.inl (some (.int (22 : Int32))), h42)))))))) (dv (F_98 f a0 a1 (11 : Int32) (0 : Int32) (0 : Int32) h6) fun h45 => (some (.inl (some (.int (21 : Int32))), h45))))))) (B_110_23 f   h6)))))))
set_option maxRecDepth 20000 in
theorem sF_110 {f : Nat} {a0 : Nat} {a1 : Int32} {h : hp_T} {o : ev_O} (hB : F_110 f a0 a1 h = some o) : rm 110 [.ref a0, .int a1] h o := by
  unfold F_110 at hB
  refine rm_in (L := [.ref a0, .int a1, .null, .null]) (Nat.le_of_ble_eq_true rfl) rfl ?_
  refine rg_p rfl rfl ?_
  obtain ⟨c1, hB⟩ := dg_e hB
  obtain ⟨r2, p3, hB⟩ := dp_e hB
  refine rg_gp rfl rfl rfl (of_decide_eq_true c1) p3 ?_
  refine rg_bi (v := (16 : Int32)) rfl (by decide) ?_
  obtain ⟨c4, hB⟩ := dg_e hB
  refine rg_ia rfl (ai_of c4) ?_
  rcases db_e hB with ⟨q5, hB⟩ | ⟨q5, hB⟩
  · refine rg_bt (t := 23) (pc' := 10) rfl rfl q5 ?_
    exact sB_110_23 f  _ _ _ _ h _ hB
  · refine rg_bf (t := 23) (pc' := 10) rfl rfl q5 ?_
    refine rg_p rfl rfl ?_
    refine rg_gp rfl rfl rfl (of_decide_eq_true c1) p3 ?_
    refine rg_bi (v := (16 : Int32)) rfl (by decide) ?_
    refine rg_ia rfl (ai_of c4) ?_
    rcases di_e hB with ⟨v9, h6, z7, hB⟩ | ⟨q8, h6, z7, hB⟩
    · refine rg_call (rg_s9 (n := 1) (as := [.int (hp_z h r2 (Int32.toNatClampNeg (16 : Int32)))]) (ar := []) rfl (rg_s0 rfl) rfl rfl (Nat.le_of_ble_eq_true rfl) rfl rfl (Nat.le_of_ble_eq_true rfl)) (sF_108 z7) ?_
      rcases db_e hB with ⟨q10, hB⟩ | ⟨q10, hB⟩
      · refine rg_bt (t := 26) (pc' := 23) rfl rfl q10 ?_
        refine rg_p rfl rfl ?_
        obtain ⟨c11, hB⟩ := dg_e hB
        obtain ⟨r12, p13, hB⟩ := dp_e hB
        refine rg_gp rfl rfl rfl (of_decide_eq_true c11) p13 ?_
        refine rg_bi (v := (8 : Int32)) rfl (by decide) ?_
        obtain ⟨c14, hB⟩ := dg_e hB
        refine rg_ia rfl (ai_of c14) ?_
        refine rg_ic (v := (2 : Int32)) rfl (by decide) ?_
        show rg 110 34 _ _ _ _
        rcases db_e hB with ⟨q15, hB⟩ | ⟨q15, hB⟩
        · refine rg_bt (t := 49) (pc' := 37) rfl rfl q15 ?_
          refine rg_p rfl rfl ?_
          refine rg_p rfl rfl ?_
          refine rg_gp rfl rfl rfl (of_decide_eq_true c11) p13 ?_
          refine rg_bi (v := (16 : Int32)) rfl (by decide) ?_
          rcases di_e hB with ⟨v19, h16, z17, hB⟩ | ⟨q18, h16, z17, hB⟩
          · refine rg_call (rg_s9 (n := 2) (as := [.ref r12, .int (16 : Int32)]) (ar := []) rfl (rg_s0 rfl) rfl rfl (Nat.le_of_ble_eq_true rfl) rfl rfl (Nat.le_of_ble_eq_true rfl)) (sF_90 z17) ?_
            obtain ⟨c20, hB⟩ := dg_e hB
            rcases di_e hB with ⟨v24, h21, z22, hB⟩ | ⟨q23, h21, z22, hB⟩
            · refine rg_call (rg_v9 (n := 1) (b := a0) (as := [.ref a0, .int v19]) (ar := []) rfl rfl rfl (Nat.le_of_ble_eq_true rfl) rfl rfl (Nat.le_of_ble_eq_true rfl) (of_decide_eq_true c20)) (sF_83 z22) ?_
              refine rg_p (L' := [.ref a0, .int a1, .int v24, .null]) rfl rfl ?_
              refine rg_p rfl rfl ?_
              refine rg_ic (v := (-1 : Int32)) rfl (by decide) ?_
              rcases db_e hB with ⟨q25, hB⟩ | ⟨q25, hB⟩
              · refine rg_bt (t := 79) (pc' := 68) rfl rfl q25 ?_
                refine rg_p rfl rfl ?_
                obtain ⟨c26, hB⟩ := dg_e hB
                obtain ⟨r27, p28, hB⟩ := dp_e hB
                refine rg_gp rfl rfl rfl (of_decide_eq_true c26) p28 ?_
                refine rg_p rfl rfl ?_
                obtain ⟨r29, p30, hB⟩ := dp_e hB
                refine rg_gp rfl rfl rfl (of_decide_eq_true c26) p30 ?_
                refine rg_p rfl rfl ?_
                show rg 110 88 _ _ _ _
                obtain ⟨c31, hB⟩ := dg_e hB
                refine rg_ia rfl (ai_of c31) ?_
                obtain ⟨c32, hB⟩ := dg_e hB
                refine rg_ba (t := 66) (by decide) rfl (ai_of c32) ?_
                rcases db_e hB with ⟨q33, hB⟩ | ⟨q33, hB⟩
                · refine rg_bt (t := 104) (pc' := 93) rfl rfl q33 ?_
                  refine rg_p rfl rfl ?_
                  refine rg_gz rfl rfl rfl (of_decide_eq_true c26) ?_
                  refine rg_p rfl rfl ?_
                  obtain ⟨r34, p35, hB⟩ := dp_e hB
                  refine rg_gp rfl rfl rfl (of_decide_eq_true c26) p35 ?_
                  refine rg_p rfl rfl ?_
                  show rg 110 113 _ _ _ _
                  refine rg_gp rfl rfl rfl (of_decide_eq_true c26) p30 ?_
                  refine rg_p rfl rfl ?_
                  refine rg_ia rfl (ai_of c31) ?_
                  obtain ⟨c36, hB⟩ := dg_e hB
                  refine rg_ia rfl (ai_of c36) ?_
                  rcases db_e hB with ⟨q37, hB⟩ | ⟨q37, hB⟩
                  · refine rg_bt (t := 126) (pc' := 122) rfl rfl q37 ?_
                    refine rg_ic (v := (0 : Int32)) rfl (by decide) ?_
                    exact sB_110_127 f  _ _ _ _ _ h21 _ hB
                  · refine rg_bf (t := 126) (pc' := 122) rfl rfl q37 ?_
                    refine rg_ic (v := (1 : Int32)) rfl (by decide) ?_
                    refine rg_p (pc' := 127) rfl rfl ?_
                    exact sB_110_127 f  _ _ _ _ _ h21 _ hB
                · refine rg_bf (t := 104) (pc' := 93) rfl rfl q33 ?_
                  refine rg_p rfl rfl ?_
                  refine rg_p rfl rfl ?_
                  refine rg_ic (v := (3 : Int32)) rfl (by decide) ?_
                  refine rg_ic (v := (1 : Int32)) rfl (by decide) ?_
                  refine rg_ic (v := (0 : Int32)) rfl (by decide) ?_
                  show rg 110 98 _ _ _ _
                  rcases dv_e hB with ⟨h38, z39, hB⟩ | ⟨q40, h38, z39, hB⟩
                  · refine rg_call (rg_v9 (n := 4) (b := a0) (as := [.ref a0, .int a1, .int (3 : Int32), .int (1 : Int32), .int (0 : Int32)]) (ar := []) rfl rfl rfl (Nat.le_of_ble_eq_true rfl) rfl rfl (Nat.le_of_ble_eq_true rfl) (of_decide_eq_true c26)) (sF_98 z39) ?_
                    refine rg_bi (v := (23 : Int32)) rfl (by decide) ?_
                    cases hB
                    exact rg_ri rfl rfl rfl
                  · subst hB
                    exact rg_callX (rg_v9 (n := 4) (b := a0) (as := [.ref a0, .int a1, .int (3 : Int32), .int (1 : Int32), .int (0 : Int32)]) (ar := []) rfl rfl rfl (Nat.le_of_ble_eq_true rfl) rfl rfl (Nat.le_of_ble_eq_true rfl) (of_decide_eq_true c26)) (sF_98 z39)
              · refine rg_bf (t := 79) (pc' := 68) rfl rfl q25 ?_
                refine rg_p rfl rfl ?_
                refine rg_p rfl rfl ?_
                refine rg_ic (v := (3 : Int32)) rfl (by decide) ?_
                refine rg_ic (v := (0 : Int32)) rfl (by decide) ?_
                refine rg_ic (v := (0 : Int32)) rfl (by decide) ?_
                show rg 110 73 _ _ _ _
                obtain ⟨c41, hB⟩ := dg_e hB
                rcases dv_e hB with ⟨h42, z43, hB⟩ | ⟨q44, h42, z43, hB⟩
                · refine rg_call (rg_v9 (n := 4) (b := a0) (as := [.ref a0, .int a1, .int (3 : Int32), .int (0 : Int32), .int (0 : Int32)]) (ar := []) rfl rfl rfl (Nat.le_of_ble_eq_true rfl) rfl rfl (Nat.le_of_ble_eq_true rfl) (of_decide_eq_true c41)) (sF_98 z43) ?_
                  refine rg_bi (v := (22 : Int32)) rfl (by decide) ?_
                  cases hB
                  exact rg_ri rfl rfl rfl
                · subst hB
                  exact rg_callX (rg_v9 (n := 4) (b := a0) (as := [.ref a0, .int a1, .int (3 : Int32), .int (0 : Int32), .int (0 : Int32)]) (ar := []) rfl rfl rfl (Nat.le_of_ble_eq_true rfl) rfl rfl (Nat.le_of_ble_eq_true rfl) (of_decide_eq_true c41)) (sF_98 z43)
            · subst hB
              exact rg_callX (rg_v9 (n := 1) (b := a0) (as := [.ref a0, .int v19]) (ar := []) rfl rfl rfl (Nat.le_of_ble_eq_true rfl) rfl rfl (Nat.le_of_ble_eq_true rfl) (of_decide_eq_true c20)) (sF_83 z22)
          · subst hB
            exact rg_callX (rg_s9 (n := 2) (as := [.ref r12, .int (16 : Int32)]) (ar := []) rfl (rg_s0 rfl) rfl rfl (Nat.le_of_ble_eq_true rfl) rfl rfl (Nat.le_of_ble_eq_true rfl)) (sF_90 z17)
        · refine rg_bf (t := 49) (pc' := 37) rfl rfl q15 ?_
          refine rg_p rfl rfl ?_
          refine rg_p rfl rfl ?_
          refine rg_bi (v := (11 : Int32)) rfl (by decide) ?_
          refine rg_ic (v := (0 : Int32)) rfl (by decide) ?_
          refine rg_ic (v := (0 : Int32)) rfl (by decide) ?_
          show rg 110 43 _ _ _ _
          rcases dv_e hB with ⟨h45, z46, hB⟩ | ⟨q47, h45, z46, hB⟩
          · refine rg_call (rg_v9 (n := 4) (b := a0) (as := [.ref a0, .int a1, .int (11 : Int32), .int (0 : Int32), .int (0 : Int32)]) (ar := []) rfl rfl rfl (Nat.le_of_ble_eq_true rfl) rfl rfl (Nat.le_of_ble_eq_true rfl) (of_decide_eq_true c11)) (sF_98 z46) ?_
            refine rg_bi (v := (21 : Int32)) rfl (by decide) ?_
            cases hB
            exact rg_ri rfl rfl rfl
          · subst hB
            exact rg_callX (rg_v9 (n := 4) (b := a0) (as := [.ref a0, .int a1, .int (11 : Int32), .int (0 : Int32), .int (0 : Int32)]) (ar := []) rfl rfl rfl (Nat.le_of_ble_eq_true rfl) rfl rfl (Nat.le_of_ble_eq_true rfl) (of_decide_eq_true c11)) (sF_98 z46)
      · refine rg_bf (t := 26) (pc' := 23) rfl rfl q10 ?_
        exact sB_110_23 f  _ _ _ _ h6 _ hB
    · subst hB
      exact rg_callX (rg_s9 (n := 1) (as := [.int (hp_z h r2 (Int32.toNatClampNeg (16 : Int32)))]) (ar := []) rfl (rg_s0 rfl) rfl rfl (Nat.le_of_ble_eq_true rfl) rfl rfl (Nat.le_of_ble_eq_true rfl)) (sF_108 z7)
-- 111: RouteHouseModel.judge(II)I
def B_111_249 (f : Nat) (s0 : Int32) (h : hp_T) : Option ev_O := (some (.inl (some (.int s0)), h))
set_option maxRecDepth 20000 in
theorem sB_111_249 (f : Nat) (s0 : Int32) (w0 : Value) (w1 : Value) (w2 : Value) (w3 : Value) (w4 : Value) (w5 : Value) (w6 : Value) (h : hp_T) (o : ev_O) (hB : B_111_249 f s0 h = some o) : rg 111 249 [w0, w1, w2, w3, w4, w5, w6] [.int s0] h o := by
  unfold B_111_249 at hB
  cases hB
  exact rg_ri rfl rfl rfl
def B_111_244 (f : Nat) (l0 : Nat) (l1 : Int32) (h : hp_T) : Option ev_O := (dg (decide (hp_k h l0 = some (8, 0))) (di (F_109 f l0 l1 h) fun v5 h2 => (B_111_249 f  v5 h2)))
set_option maxRecDepth 20000 in
theorem sB_111_244 (f : Nat) (l0 : Nat) (l1 : Int32) (w2 : Value) (w3 : Value) (w4 : Value) (w5 : Value) (w6 : Value) (h : hp_T) (o : ev_O) (hB : B_111_244 f l0 l1 h = some o) : rg 111 244 [.ref l0, .int l1, w2, w3, w4, w5, w6] [] h o := by
  unfold B_111_244 at hB
  refine rg_p rfl rfl ?_
  refine rg_p rfl rfl ?_
  obtain ⟨c1, hB⟩ := dg_e hB
  rcases di_e hB with ⟨v5, h2, z3, hB⟩ | ⟨q4, h2, z3, hB⟩
  · refine rg_call (rg_v9 (n := 1) (b := l0) (as := [.ref l0, .int l1]) (ar := []) rfl rfl rfl (Nat.le_of_ble_eq_true rfl) rfl rfl (Nat.le_of_ble_eq_true rfl) (of_decide_eq_true c1)) (sF_109 z3) ?_
    exact sB_111_249 f  _ _ _ _ _ _ _ _ h2 _ hB
  · subst hB
    exact rg_callX (rg_v9 (n := 1) (b := l0) (as := [.ref l0, .int l1]) (ar := []) rfl rfl rfl (Nat.le_of_ble_eq_true rfl) rfl rfl (Nat.le_of_ble_eq_true rfl) (of_decide_eq_true c1)) (sF_109 z3)
def B_111_224 (f : Nat) (l0 : Nat) (l1 : Int32) (s0 : Int32) (h : hp_T) : Option ev_O := (db (ev_c .eq s0 0) (B_111_244 f  l0 l1 h) (dg (decide (hp_k h l0 = some (8, 0))) (di (F_105 f l0 l1 h) fun v6 h3 => (db (ev_c .ne v6 0) (B_111_244 f  l0 l1 h3) (B_111_249 f  (10 : Int32) h3)))))
set_option maxRecDepth 20000 in
theorem sB_111_224 (f : Nat) (l0 : Nat) (l1 : Int32) (s0 : Int32) (w2 : Value) (w3 : Value) (w4 : Value) (w5 : Value) (w6 : Value) (h : hp_T) (o : ev_O) (hB : B_111_224 f l0 l1 s0 h = some o) : rg 111 224 [.ref l0, .int l1, w2, w3, w4, w5, w6] [.int s0] h o := by
  unfold B_111_224 at hB
  refine rg_p (L' := [.ref l0, .int l1, w2, w3, w4, w5, .int s0]) rfl rfl ?_
  refine rg_p rfl rfl ?_
  rcases db_e hB with ⟨q1, hB⟩ | ⟨q1, hB⟩
  · refine rg_bt (t := 244) (pc' := 231) rfl rfl q1 ?_
    exact sB_111_244 f  _ _ _ _ _ _ _ h _ hB
  · refine rg_bf (t := 244) (pc' := 231) rfl rfl q1 ?_
    refine rg_p rfl rfl ?_
    refine rg_p rfl rfl ?_
    obtain ⟨c2, hB⟩ := dg_e hB
    rcases di_e hB with ⟨v6, h3, z4, hB⟩ | ⟨q5, h3, z4, hB⟩
    · refine rg_call (rg_v9 (n := 1) (b := l0) (as := [.ref l0, .int l1]) (ar := []) rfl rfl rfl (Nat.le_of_ble_eq_true rfl) rfl rfl (Nat.le_of_ble_eq_true rfl) (of_decide_eq_true c2)) (sF_105 z4) ?_
      rcases db_e hB with ⟨q7, hB⟩ | ⟨q7, hB⟩
      · refine rg_bt (t := 244) (pc' := 239) rfl rfl q7 ?_
        exact sB_111_244 f  _ _ _ _ _ _ _ h3 _ hB
      · refine rg_bf (t := 244) (pc' := 239) rfl rfl q7 ?_
        refine rg_bi (v := (10 : Int32)) rfl (by decide) ?_
        refine rg_p (pc' := 249) rfl rfl ?_
        exact sB_111_249 f  _ _ _ _ _ _ _ _ h3 _ hB
    · subst hB
      exact rg_callX (rg_v9 (n := 1) (b := l0) (as := [.ref l0, .int l1]) (ar := []) rfl rfl rfl (Nat.le_of_ble_eq_true rfl) rfl rfl (Nat.le_of_ble_eq_true rfl) (of_decide_eq_true c2)) (sF_105 z4)
def B_111_219 (f : Nat) (l0 : Nat) (l1 : Int32) (h : hp_T) : Option ev_O := (B_111_224 f  l0 l1 (1 : Int32) h)
set_option maxRecDepth 20000 in
theorem sB_111_219 (f : Nat) (l0 : Nat) (l1 : Int32) (w2 : Value) (w3 : Value) (w4 : Value) (w5 : Value) (w6 : Value) (h : hp_T) (o : ev_O) (hB : B_111_219 f l0 l1 h = some o) : rg 111 219 [.ref l0, .int l1, w2, w3, w4, w5, w6] [] h o := by
  unfold B_111_219 at hB
  refine rg_ic (v := (1 : Int32)) rfl (by decide) ?_
  refine rg_p (pc' := 224) rfl rfl ?_
  exact sB_111_224 f  _ _ _ _ _ _ _ _ h _ hB
def B_111_147 (f : Nat) (h : hp_T) : Option ev_O := (some (.inl (some (.int (6 : Int32))), h))
set_option maxRecDepth 20000 in
theorem sB_111_147 (f : Nat) (w0 : Value) (w1 : Value) (w2 : Value) (w3 : Value) (w4 : Value) (w5 : Value) (w6 : Value) (h : hp_T) (o : ev_O) (hB : B_111_147 f  h = some o) : rg 111 147 [w0, w1, w2, w3, w4, w5, w6] [] h o := by
  unfold B_111_147 at hB
  refine rg_bi (v := (6 : Int32)) rfl (by decide) ?_
  cases hB
  exact rg_ri rfl rfl rfl
def B_111_75 (f : Nat) (h : hp_T) : Option ev_O := (some (.inl (some (.int (4 : Int32))), h))
set_option maxRecDepth 20000 in
theorem sB_111_75 (f : Nat) (w0 : Value) (w1 : Value) (w2 : Value) (w3 : Value) (w4 : Value) (w5 : Value) (w6 : Value) (h : hp_T) (o : ev_O) (hB : B_111_75 f  h = some o) : rg 111 75 [w0, w1, w2, w3, w4, w5, w6] [] h o := by
  unfold B_111_75 at hB
  refine rg_ic (v := (4 : Int32)) rfl (by decide) ?_
  cases hB
  exact rg_ri rfl rfl rfl
def B_111_45 (f : Nat) (h : hp_T) : Option ev_O := (some (.inl (some (.int (3 : Int32))), h))
set_option maxRecDepth 20000 in
theorem sB_111_45 (f : Nat) (w0 : Value) (w1 : Value) (w2 : Value) (w3 : Value) (w4 : Value) (w5 : Value) (w6 : Value) (h : hp_T) (o : ev_O) (hB : B_111_45 f  h = some o) : rg 111 45 [w0, w1, w2, w3, w4, w5, w6] [] h o := by
  unfold B_111_45 at hB
  refine rg_ic (v := (3 : Int32)) rfl (by decide) ?_
  cases hB
  exact rg_ri rfl rfl rfl
def F_111 (f : Nat) (a0 : Nat) (a1 : Int32) (a2 : Int32) (h : hp_T) : Option ev_O := (db (ev_c .ge a2 (20 : Int32)) (dg (decide (hp_k h a0 = some (8, 0))) (dp (hp_p h a0 10) fun r3 => (dg (aib 64 h r3 (0 : Int32)) (db (ev_c .eq ((hp_z h r3 (Int32.toNatClampNeg (0 : Int32))) >>> ((4 : Int32) &&& 31)) (4 : Int32)) (db (ev_c .lt ((4 : Int32) * ((hp_z h r3 (Int32.toNatClampNeg (0 : Int32))) &&& (15 : Int32))) (20 : Int32)) (B_111_45 f   h) (db (ev_c .le ((4 : Int32) * ((hp_z h r3 (Int32.toNatClampNeg (0 : Int32))) &&& (15 : Int32))) a2) (di (F_89 f r3 (2 : Int32) h) fun v12 h9 => (dg (decide (hp_k h9 a0 = some (8, 0))) (dl (wz h9 a0 12 v12) fun h14 => (dg (decide (hp_k h14 a0 = some (8, 0))) (db (ev_c .lt (hp_z h14 a0 12) ((4 : Int32) * ((hp_z h r3 (Int32.toNatClampNeg (0 : Int32))) &&& (15 : Int32)))) (B_111_75 f   h14) (db (ev_c .le (hp_z h14 a0 12) a2) (dp (hp_p h14 a0 10) fun r19 => (di (F_87 f r19 (0 : Int32) ((4 : Int32) * ((hp_z h r3 (Int32.toNatClampNeg (0 : Int32))) &&& (15 : Int32))) (10 : Int32) h14) fun v24 h21 => (dg (decide (hp_k h21 a0 = some (8, 0))) (dp (hp_p h21 a0 10) fun r26 => (di (F_89 f r26 (10 : Int32) h21) fun v31 h28 => (db (ev_c .eq v24 v31) (dg (decide (hp_k h28 a0 = some (8, 0))) (dp (hp_p h28 a0 10) fun r34 => (di (F_89 f r34 (6 : Int32) h28) fun v39 h36 => (dg (decide (hp_k h36 a0 = some (8, 0))) (dp (hp_p h36 a0 10) fun r41 => (dg (aib 64 h36 r41 (12 : Int32)) (di (F_108 f (hp_z h36 r41 (Int32.toNatClampNeg (12 : Int32))) h36) fun v47 h44 => (db (ev_c .ne v47 0) (B_111_147 f   h44) (dg (decide (hp_k h44 a0 = some (8, 0))) (db (ev_c .le ((((8 : Int32) * (v39 &&& (8191 : Int32))) + (hp_z h44 a0 12)) - ((4 : Int32) * ((hp_z h r3 (Int32.toNatClampNeg (0 : Int32))) &&& (15 : Int32)))) (65535 : Int32)) (di (F_107 f a0 ((4 : Int32) * ((hp_z h r3 (Int32.toNatClampNeg (0 : Int32))) &&& (15 : Int32))) h44) fun v54 h51 => (db (ev_c .eq v54 (-1 : Int32)) (dg (decide (hp_k h51 a0 = some (8, 0))) (dp (hp_p h51 a0 10) fun r57 => (di (F_90 f r57 (16 : Int32) h51) fun v62 h59 => (dg (decide (hp_k h59 a0 = some (8, 0))) (di (F_106 f a0 v62 h59) fun v67 h64 => (db (ev_c .ne v67 0) (db (ev_c .gt ((8 : Int32) * (v39 &&& (8191 : Int32))) 0) (B_111_219 f  a0 a1 h64) (dg (decide (hp_k h64 a0 = some (8, 0))) (dp (hp_p h64 a0 10) fun r71 => (dg (aib 64 h64 r71 (6 : Int32)) (db (ev_c .le ((hp_z h64 r71 (Int32.toNatClampNeg (6 : Int32))) &&& (32 : Int32)) 0) (B_111_224 f  a0 a1 (0 : Int32) h64) (B_111_219 f  a0 a1 h64)))))) (dg (decide (hp_k h64 a0 = some (8, 0))) (di (F_110 f a0 a1 h64) fun v79 h76 => (some (.inl (some (.int v79)), h76)))))))))) (dg (decide (hp_k h51 a0 = some (8, 0))) (dv (F_98 f a0 a1 (12 : Int32) (0 : Int32) (v54 <<< ((24 : Int32) &&& 31)) h51) fun h81 => (some (.inl (some (.int (7 : Int32))), h81)))))) (B_111_147 f   h44))))))))))) (some (.inl (some (.int (5 : Int32))), h28)))))))) (B_111_75 f   h14))))))) (B_111_45 f   h))) (some (.inl (some (.int (2 : Int32))), h)))))) (some (.inl (some (.int (1 : Int32))), h)))
set_option maxRecDepth 20000 in
theorem sF_111 {f : Nat} {a0 : Nat} {a1 : Int32} {a2 : Int32} {h : hp_T} {o : ev_O} (hB : F_111 f a0 a1 a2 h = some o) : rm 111 [.ref a0, .int a1, .int a2] h o := by
  unfold F_111 at hB
  refine rm_in (L := [.ref a0, .int a1, .int a2, .null, .null, .null, .null]) (Nat.le_of_ble_eq_true rfl) rfl ?_
  refine rg_p rfl rfl ?_
  refine rg_bi (v := (20 : Int32)) rfl (by decide) ?_
  rcases db_e hB with ⟨q1, hB⟩ | ⟨q1, hB⟩
  · refine rg_bt (t := 8) (pc' := 6) rfl rfl q1 ?_
    refine rg_p rfl rfl ?_
    obtain ⟨c2, hB⟩ := dg_e hB
    obtain ⟨r3, p4, hB⟩ := dp_e hB
    refine rg_gp rfl rfl rfl (of_decide_eq_true c2) p4 ?_
    refine rg_ic (v := (0 : Int32)) rfl (by decide) ?_
    obtain ⟨c5, hB⟩ := dg_e hB
    refine rg_ia rfl (ai_of c5) ?_
    refine rg_ic (v := (4 : Int32)) rfl (by decide) ?_
    show rg 111 15 _ _ _ _
    refine rg_p rfl rfl ?_
    refine rg_ic (v := (4 : Int32)) rfl (by decide) ?_
    rcases db_e hB with ⟨q6, hB⟩ | ⟨q6, hB⟩
    · refine rg_bt (t := 22) (pc' := 20) rfl rfl q6 ?_
      refine rg_ic (v := (4 : Int32)) rfl (by decide) ?_
      refine rg_p rfl rfl ?_
      refine rg_gp rfl rfl rfl (of_decide_eq_true c2) p4 ?_
      refine rg_ic (v := (0 : Int32)) rfl (by decide) ?_
      refine rg_ia rfl (ai_of c5) ?_
      show rg 111 29 _ _ _ _
      refine rg_bi (v := (15 : Int32)) rfl (by decide) ?_
      refine rg_p rfl rfl ?_
      refine rg_p rfl rfl ?_
      refine rg_p (L' := [.ref a0, .int a1, .int a2, .int ((4 : Int32) * ((hp_z h r3 (Int32.toNatClampNeg (0 : Int32))) &&& (15 : Int32))), .null, .null, .null]) rfl rfl ?_
      refine rg_p rfl rfl ?_
      refine rg_bi (v := (20 : Int32)) rfl (by decide) ?_
      show rg 111 37 _ _ _ _
      rcases db_e hB with ⟨q7, hB⟩ | ⟨q7, hB⟩
      · refine rg_bt (t := 45) (pc' := 40) rfl rfl q7 ?_
        exact sB_111_45 f  _ _ _ _ _ _ _ h _ hB
      · refine rg_bf (t := 45) (pc' := 40) rfl rfl q7 ?_
        refine rg_p rfl rfl ?_
        refine rg_p rfl rfl ?_
        rcases db_e hB with ⟨q8, hB⟩ | ⟨q8, hB⟩
        · refine rg_bt (t := 47) (pc' := 45) rfl rfl q8 ?_
          refine rg_p rfl rfl ?_
          refine rg_p rfl rfl ?_
          refine rg_gp rfl rfl rfl (of_decide_eq_true c2) p4 ?_
          refine rg_ic (v := (2 : Int32)) rfl (by decide) ?_
          rcases di_e hB with ⟨v12, h9, z10, hB⟩ | ⟨q11, h9, z10, hB⟩
          · refine rg_call (rg_s9 (n := 2) (as := [.ref r3, .int (2 : Int32)]) (ar := []) rfl (rg_s0 rfl) rfl rfl (Nat.le_of_ble_eq_true rfl) rfl rfl (Nat.le_of_ble_eq_true rfl)) (sF_89 z10) ?_
            obtain ⟨c13, hB⟩ := dg_e hB
            obtain ⟨h14, e15, hB⟩ := dl_e hB
            refine rg_pi rfl rfl rfl (of_decide_eq_true c13) e15 ?_
            refine rg_p rfl rfl ?_
            obtain ⟨c16, hB⟩ := dg_e hB
            refine rg_gz rfl rfl rfl (of_decide_eq_true c16) ?_
            refine rg_p rfl rfl ?_
            rcases db_e hB with ⟨q17, hB⟩ | ⟨q17, hB⟩
            · refine rg_bt (t := 75) (pc' := 67) rfl rfl q17 ?_
              exact sB_111_75 f  _ _ _ _ _ _ _ h14 _ hB
            · refine rg_bf (t := 75) (pc' := 67) rfl rfl q17 ?_
              refine rg_p rfl rfl ?_
              refine rg_gz rfl rfl rfl (of_decide_eq_true c16) ?_
              refine rg_p rfl rfl ?_
              rcases db_e hB with ⟨q18, hB⟩ | ⟨q18, hB⟩
              · refine rg_bt (t := 77) (pc' := 75) rfl rfl q18 ?_
                refine rg_p rfl rfl ?_
                obtain ⟨r19, p20, hB⟩ := dp_e hB
                refine rg_gp rfl rfl rfl (of_decide_eq_true c16) p20 ?_
                refine rg_ic (v := (0 : Int32)) rfl (by decide) ?_
                refine rg_p rfl rfl ?_
                refine rg_bi (v := (10 : Int32)) rfl (by decide) ?_
                show rg 111 85 _ _ _ _
                rcases di_e hB with ⟨v24, h21, z22, hB⟩ | ⟨q23, h21, z22, hB⟩
                · refine rg_call (rg_s9 (n := 4) (as := [.ref r19, .int (0 : Int32), .int ((4 : Int32) * ((hp_z h r3 (Int32.toNatClampNeg (0 : Int32))) &&& (15 : Int32))), .int (10 : Int32)]) (ar := []) rfl (rg_s0 rfl) rfl rfl (Nat.le_of_ble_eq_true rfl) rfl rfl (Nat.le_of_ble_eq_true rfl)) (sF_87 z22) ?_
                  refine rg_p rfl rfl ?_
                  obtain ⟨c25, hB⟩ := dg_e hB
                  obtain ⟨r26, p27, hB⟩ := dp_e hB
                  refine rg_gp rfl rfl rfl (of_decide_eq_true c25) p27 ?_
                  refine rg_bi (v := (10 : Int32)) rfl (by decide) ?_
                  rcases di_e hB with ⟨v31, h28, z29, hB⟩ | ⟨q30, h28, z29, hB⟩
                  · refine rg_call (rg_s9 (n := 2) (as := [.ref r26, .int (10 : Int32)]) (ar := []) rfl (rg_s0 rfl) rfl rfl (Nat.le_of_ble_eq_true rfl) rfl rfl (Nat.le_of_ble_eq_true rfl)) (sF_89 z29) ?_
                    rcases db_e hB with ⟨q32, hB⟩ | ⟨q32, hB⟩
                    · refine rg_bt (t := 102) (pc' := 100) rfl rfl q32 ?_
                      refine rg_bi (v := (8 : Int32)) rfl (by decide) ?_
                      refine rg_p rfl rfl ?_
                      obtain ⟨c33, hB⟩ := dg_e hB
                      obtain ⟨r34, p35, hB⟩ := dp_e hB
                      refine rg_gp rfl rfl rfl (of_decide_eq_true c33) p35 ?_
                      refine rg_bi (v := (6 : Int32)) rfl (by decide) ?_
                      rcases di_e hB with ⟨v39, h36, z37, hB⟩ | ⟨q38, h36, z37, hB⟩
                      · refine rg_call (rg_s9 (n := 2) (as := [.ref r34, .int (6 : Int32)]) (ar := []) rfl (rg_s0 rfl) rfl rfl (Nat.le_of_ble_eq_true rfl) rfl rfl (Nat.le_of_ble_eq_true rfl)) (sF_89 z37) ?_
                        refine rg_si (v := (8191 : Int32)) rfl (by decide) ?_
                        refine rg_p rfl rfl ?_
                        refine rg_p rfl rfl ?_
                        refine rg_p (L' := [.ref a0, .int a1, .int a2, .int ((4 : Int32) * ((hp_z h r3 (Int32.toNatClampNeg (0 : Int32))) &&& (15 : Int32))), .int ((8 : Int32) * (v39 &&& (8191 : Int32))), .null, .null]) rfl rfl ?_
                        refine rg_p rfl rfl ?_
                        show rg 111 121 _ _ _ _
                        obtain ⟨c40, hB⟩ := dg_e hB
                        obtain ⟨r41, p42, hB⟩ := dp_e hB
                        refine rg_gp rfl rfl rfl (of_decide_eq_true c40) p42 ?_
                        refine rg_bi (v := (12 : Int32)) rfl (by decide) ?_
                        obtain ⟨c43, hB⟩ := dg_e hB
                        refine rg_ia rfl (ai_of c43) ?_
                        rcases di_e hB with ⟨v47, h44, z45, hB⟩ | ⟨q46, h44, z45, hB⟩
                        · refine rg_call (rg_s9 (n := 1) (as := [.int (hp_z h36 r41 (Int32.toNatClampNeg (12 : Int32)))]) (ar := []) rfl (rg_s0 rfl) rfl rfl (Nat.le_of_ble_eq_true rfl) rfl rfl (Nat.le_of_ble_eq_true rfl)) (sF_108 z45) ?_
                          rcases db_e hB with ⟨q48, hB⟩ | ⟨q48, hB⟩
                          · refine rg_bt (t := 147) (pc' := 133) rfl rfl q48 ?_
                            exact sB_111_147 f  _ _ _ _ _ _ _ h44 _ hB
                          · refine rg_bf (t := 147) (pc' := 133) rfl rfl q48 ?_
                            refine rg_p rfl rfl ?_
                            refine rg_p rfl rfl ?_
                            obtain ⟨c49, hB⟩ := dg_e hB
                            refine rg_gz rfl rfl rfl (of_decide_eq_true c49) ?_
                            refine rg_p rfl rfl ?_
                            refine rg_p rfl rfl ?_
                            show rg 111 141 _ _ _ _
                            refine rg_p rfl rfl ?_
                            refine rg_ld (v := (65535 : Int32)) rfl rfl ?_
                            rcases db_e hB with ⟨q50, hB⟩ | ⟨q50, hB⟩
                            · refine rg_bt (t := 150) (pc' := 147) rfl rfl q50 ?_
                              refine rg_p rfl rfl ?_
                              refine rg_p rfl rfl ?_
                              rcases di_e hB with ⟨v54, h51, z52, hB⟩ | ⟨q53, h51, z52, hB⟩
                              · refine rg_call (rg_v9 (n := 1) (b := a0) (as := [.ref a0, .int ((4 : Int32) * ((hp_z h r3 (Int32.toNatClampNeg (0 : Int32))) &&& (15 : Int32)))]) (ar := []) rfl rfl rfl (Nat.le_of_ble_eq_true rfl) rfl rfl (Nat.le_of_ble_eq_true rfl) (of_decide_eq_true c49)) (sF_107 z52) ?_
                                refine rg_p (L' := [.ref a0, .int a1, .int a2, .int ((4 : Int32) * ((hp_z h r3 (Int32.toNatClampNeg (0 : Int32))) &&& (15 : Int32))), .int ((8 : Int32) * (v39 &&& (8191 : Int32))), .int v54, .null]) rfl rfl ?_
                                refine rg_p rfl rfl ?_
                                refine rg_ic (v := (-1 : Int32)) rfl (by decide) ?_
                                rcases db_e hB with ⟨q55, hB⟩ | ⟨q55, hB⟩
                                · refine rg_bt (t := 179) (pc' := 163) rfl rfl q55 ?_
                                  refine rg_p rfl rfl ?_
                                  refine rg_p rfl rfl ?_
                                  obtain ⟨c56, hB⟩ := dg_e hB
                                  obtain ⟨r57, p58, hB⟩ := dp_e hB
                                  refine rg_gp rfl rfl rfl (of_decide_eq_true c56) p58 ?_
                                  refine rg_bi (v := (16 : Int32)) rfl (by decide) ?_
                                  rcases di_e hB with ⟨v62, h59, z60, hB⟩ | ⟨q61, h59, z60, hB⟩
                                  · refine rg_call (rg_s9 (n := 2) (as := [.ref r57, .int (16 : Int32)]) (ar := []) rfl (rg_s0 rfl) rfl rfl (Nat.le_of_ble_eq_true rfl) rfl rfl (Nat.le_of_ble_eq_true rfl)) (sF_90 z60) ?_
                                    obtain ⟨c63, hB⟩ := dg_e hB
                                    rcases di_e hB with ⟨v67, h64, z65, hB⟩ | ⟨q66, h64, z65, hB⟩
                                    · refine rg_call (rg_v9 (n := 1) (b := a0) (as := [.ref a0, .int v62]) (ar := []) rfl rfl rfl (Nat.le_of_ble_eq_true rfl) rfl rfl (Nat.le_of_ble_eq_true rfl) (of_decide_eq_true c63)) (sF_106 z65) ?_
                                      rcases db_e hB with ⟨q68, hB⟩ | ⟨q68, hB⟩
                                      · refine rg_bt (t := 201) (pc' := 195) rfl rfl q68 ?_
                                        refine rg_p rfl rfl ?_
                                        rcases db_e hB with ⟨q69, hB⟩ | ⟨q69, hB⟩
                                        · refine rg_bt (t := 219) (pc' := 206) rfl rfl q69 ?_
                                          exact sB_111_219 f  _ _ _ _ _ _ _ h64 _ hB
                                        · refine rg_bf (t := 219) (pc' := 206) rfl rfl q69 ?_
                                          refine rg_p rfl rfl ?_
                                          obtain ⟨c70, hB⟩ := dg_e hB
                                          obtain ⟨r71, p72, hB⟩ := dp_e hB
                                          refine rg_gp rfl rfl rfl (of_decide_eq_true c70) p72 ?_
                                          refine rg_bi (v := (6 : Int32)) rfl (by decide) ?_
                                          obtain ⟨c73, hB⟩ := dg_e hB
                                          refine rg_ia rfl (ai_of c73) ?_
                                          refine rg_bi (v := (32 : Int32)) rfl (by decide) ?_
                                          show rg 111 215 _ _ _ _
                                          refine rg_p rfl rfl ?_
                                          rcases db_e hB with ⟨q74, hB⟩ | ⟨q74, hB⟩
                                          · refine rg_bt (t := 223) (pc' := 219) rfl rfl q74 ?_
                                            refine rg_ic (v := (0 : Int32)) rfl (by decide) ?_
                                            exact sB_111_224 f  _ _ _ _ _ _ _ _ h64 _ hB
                                          · refine rg_bf (t := 223) (pc' := 219) rfl rfl q74 ?_
                                            exact sB_111_219 f  _ _ _ _ _ _ _ h64 _ hB
                                      · refine rg_bf (t := 201) (pc' := 195) rfl rfl q68 ?_
                                        refine rg_p rfl rfl ?_
                                        refine rg_p rfl rfl ?_
                                        obtain ⟨c75, hB⟩ := dg_e hB
                                        rcases di_e hB with ⟨v79, h76, z77, hB⟩ | ⟨q78, h76, z77, hB⟩
                                        · refine rg_call (rg_v9 (n := 1) (b := a0) (as := [.ref a0, .int a1]) (ar := []) rfl rfl rfl (Nat.le_of_ble_eq_true rfl) rfl rfl (Nat.le_of_ble_eq_true rfl) (of_decide_eq_true c75)) (sF_110 z77) ?_
                                          cases hB
                                          exact rg_ri rfl rfl rfl
                                        · subst hB
                                          exact rg_callX (rg_v9 (n := 1) (b := a0) (as := [.ref a0, .int a1]) (ar := []) rfl rfl rfl (Nat.le_of_ble_eq_true rfl) rfl rfl (Nat.le_of_ble_eq_true rfl) (of_decide_eq_true c75)) (sF_110 z77)
                                    · subst hB
                                      exact rg_callX (rg_v9 (n := 1) (b := a0) (as := [.ref a0, .int v62]) (ar := []) rfl rfl rfl (Nat.le_of_ble_eq_true rfl) rfl rfl (Nat.le_of_ble_eq_true rfl) (of_decide_eq_true c63)) (sF_106 z65)
                                  · subst hB
                                    exact rg_callX (rg_s9 (n := 2) (as := [.ref r57, .int (16 : Int32)]) (ar := []) rfl (rg_s0 rfl) rfl rfl (Nat.le_of_ble_eq_true rfl) rfl rfl (Nat.le_of_ble_eq_true rfl)) (sF_90 z60)
                                · refine rg_bf (t := 179) (pc' := 163) rfl rfl q55 ?_
                                  refine rg_p rfl rfl ?_
                                  refine rg_p rfl rfl ?_
                                  refine rg_bi (v := (12 : Int32)) rfl (by decide) ?_
                                  refine rg_ic (v := (0 : Int32)) rfl (by decide) ?_
                                  refine rg_p rfl rfl ?_
                                  show rg 111 170 _ _ _ _
                                  refine rg_bi (v := (24 : Int32)) rfl (by decide) ?_
                                  refine rg_p rfl rfl ?_
                                  obtain ⟨c80, hB⟩ := dg_e hB
                                  rcases dv_e hB with ⟨h81, z82, hB⟩ | ⟨q83, h81, z82, hB⟩
                                  · refine rg_call (rg_v9 (n := 4) (b := a0) (as := [.ref a0, .int a1, .int (12 : Int32), .int (0 : Int32), .int (v54 <<< ((24 : Int32) &&& 31))]) (ar := []) rfl rfl rfl (Nat.le_of_ble_eq_true rfl) rfl rfl (Nat.le_of_ble_eq_true rfl) (of_decide_eq_true c80)) (sF_98 z82) ?_
                                    refine rg_bi (v := (7 : Int32)) rfl (by decide) ?_
                                    cases hB
                                    exact rg_ri rfl rfl rfl
                                  · subst hB
                                    exact rg_callX (rg_v9 (n := 4) (b := a0) (as := [.ref a0, .int a1, .int (12 : Int32), .int (0 : Int32), .int (v54 <<< ((24 : Int32) &&& 31))]) (ar := []) rfl rfl rfl (Nat.le_of_ble_eq_true rfl) rfl rfl (Nat.le_of_ble_eq_true rfl) (of_decide_eq_true c80)) (sF_98 z82)
                              · subst hB
                                exact rg_callX (rg_v9 (n := 1) (b := a0) (as := [.ref a0, .int ((4 : Int32) * ((hp_z h r3 (Int32.toNatClampNeg (0 : Int32))) &&& (15 : Int32)))]) (ar := []) rfl rfl rfl (Nat.le_of_ble_eq_true rfl) rfl rfl (Nat.le_of_ble_eq_true rfl) (of_decide_eq_true c49)) (sF_107 z52)
                            · refine rg_bf (t := 150) (pc' := 147) rfl rfl q50 ?_
                              exact sB_111_147 f  _ _ _ _ _ _ _ h44 _ hB
                        · subst hB
                          exact rg_callX (rg_s9 (n := 1) (as := [.int (hp_z h36 r41 (Int32.toNatClampNeg (12 : Int32)))]) (ar := []) rfl (rg_s0 rfl) rfl rfl (Nat.le_of_ble_eq_true rfl) rfl rfl (Nat.le_of_ble_eq_true rfl)) (sF_108 z45)
                      · subst hB
                        exact rg_callX (rg_s9 (n := 2) (as := [.ref r34, .int (6 : Int32)]) (ar := []) rfl (rg_s0 rfl) rfl rfl (Nat.le_of_ble_eq_true rfl) rfl rfl (Nat.le_of_ble_eq_true rfl)) (sF_89 z37)
                    · refine rg_bf (t := 102) (pc' := 100) rfl rfl q32 ?_
                      refine rg_ic (v := (5 : Int32)) rfl (by decide) ?_
                      cases hB
                      exact rg_ri rfl rfl rfl
                  · subst hB
                    exact rg_callX (rg_s9 (n := 2) (as := [.ref r26, .int (10 : Int32)]) (ar := []) rfl (rg_s0 rfl) rfl rfl (Nat.le_of_ble_eq_true rfl) rfl rfl (Nat.le_of_ble_eq_true rfl)) (sF_89 z29)
                · subst hB
                  exact rg_callX (rg_s9 (n := 4) (as := [.ref r19, .int (0 : Int32), .int ((4 : Int32) * ((hp_z h r3 (Int32.toNatClampNeg (0 : Int32))) &&& (15 : Int32))), .int (10 : Int32)]) (ar := []) rfl (rg_s0 rfl) rfl rfl (Nat.le_of_ble_eq_true rfl) rfl rfl (Nat.le_of_ble_eq_true rfl)) (sF_87 z22)
              · refine rg_bf (t := 77) (pc' := 75) rfl rfl q18 ?_
                exact sB_111_75 f  _ _ _ _ _ _ _ h14 _ hB
          · subst hB
            exact rg_callX (rg_s9 (n := 2) (as := [.ref r3, .int (2 : Int32)]) (ar := []) rfl (rg_s0 rfl) rfl rfl (Nat.le_of_ble_eq_true rfl) rfl rfl (Nat.le_of_ble_eq_true rfl)) (sF_89 z10)
        · refine rg_bf (t := 47) (pc' := 45) rfl rfl q8 ?_
          exact sB_111_45 f  _ _ _ _ _ _ _ h _ hB
    · refine rg_bf (t := 22) (pc' := 20) rfl rfl q6 ?_
      refine rg_ic (v := (2 : Int32)) rfl (by decide) ?_
      cases hB
      exact rg_ri rfl rfl rfl
  · refine rg_bf (t := 8) (pc' := 6) rfl rfl q1 ?_
    refine rg_ic (v := (1 : Int32)) rfl (by decide) ?_
    cases hB
    exact rg_ri rfl rfl rfl
-- 112: RouteHouseModel.receive(I)I
def B_112_29 (f : Nat) : Nat → Nat → Int32 → Int32 → Int32 → hp_T → Option ev_O
  | 0, _, _, _, _, _ => none
  | g + 1, l0, l1, l2, l3, h => (db (ev_c .ge l3 l2) (dg (decide (hp_k h l0 = some (8, 0))) (dl (wz h l0 9 (0 : Int32)) fun h3 => (dg (decide (hp_k h3 l0 = some (8, 0))) (dl (wz h3 l0 19 (0 : Int32)) fun h6 => (dg (decide (hp_k h6 l0 = some (8, 0))) (di (F_111 f l0 l1 l2 h6) fun v12 h9 => (some (.inl (some (.int v12)), h9)))))))) (dg (decide (hp_k h l0 = some (8, 0))) (dp (hp_p h l0 10) fun r14 => (dp (hp_p h l0 8) fun r16 => (dg (aib 64 h r16 l3) (dg (aib 64 h r14 l3) (dl (wz h r14 (Int32.toNatClampNeg l3) (hp_z h r16 (Int32.toNatClampNeg l3))) fun h20 => ((B_112_29 f g) l0 l1 l2 (l3 + (1 : Int32)) h20))))))))
set_option maxRecDepth 20000 in
theorem sB_112_29 (f : Nat) : ∀ (g : Nat) (l0 : Nat) (l1 : Int32) (l2 : Int32) (l3 : Int32) (h : hp_T) (o : ev_O), B_112_29 f g l0 l1 l2 l3 h = some o → rg 112 29 [.ref l0, .int l1, .int l2, .int l3] [] h o := by
  intro g
  induction g with
  | zero =>
    intro l0 l1 l2 l3  h o hB
    rw [B_112_29] at hB
    cases hB
  | succ g ih =>
    intro l0 l1 l2 l3  h o hB
    rw [B_112_29] at hB
    refine rg_p rfl rfl ?_
    refine rg_p rfl rfl ?_
    rcases db_e hB with ⟨q1, hB⟩ | ⟨q1, hB⟩
    · refine rg_bt (t := 52) (pc' := 34) rfl rfl q1 ?_
      refine rg_p rfl rfl ?_
      refine rg_ic (v := (0 : Int32)) rfl (by decide) ?_
      obtain ⟨c2, hB⟩ := dg_e hB
      obtain ⟨h3, e4, hB⟩ := dl_e hB
      refine rg_pi rfl rfl rfl (of_decide_eq_true c2) e4 ?_
      refine rg_p rfl rfl ?_
      refine rg_ic (v := (0 : Int32)) rfl (by decide) ?_
      show rg 112 59 _ _ _ _
      obtain ⟨c5, hB⟩ := dg_e hB
      obtain ⟨h6, e7, hB⟩ := dl_e hB
      refine rg_pi rfl rfl rfl (of_decide_eq_true c5) e7 ?_
      refine rg_p rfl rfl ?_
      refine rg_p rfl rfl ?_
      refine rg_p rfl rfl ?_
      obtain ⟨c8, hB⟩ := dg_e hB
      rcases di_e hB with ⟨v12, h9, z10, hB⟩ | ⟨q11, h9, z10, hB⟩
      · refine rg_call (rg_v9 (n := 2) (b := l0) (as := [.ref l0, .int l1, .int l2]) (ar := []) rfl rfl rfl (Nat.le_of_ble_eq_true rfl) rfl rfl (Nat.le_of_ble_eq_true rfl) (of_decide_eq_true c8)) (sF_111 z10) ?_
        cases hB
        exact rg_ri rfl rfl rfl
      · subst hB
        exact rg_callX (rg_v9 (n := 2) (b := l0) (as := [.ref l0, .int l1, .int l2]) (ar := []) rfl rfl rfl (Nat.le_of_ble_eq_true rfl) rfl rfl (Nat.le_of_ble_eq_true rfl) (of_decide_eq_true c8)) (sF_111 z10)
    · refine rg_bf (t := 52) (pc' := 34) rfl rfl q1 ?_
      refine rg_p rfl rfl ?_
      obtain ⟨c13, hB⟩ := dg_e hB
      obtain ⟨r14, p15, hB⟩ := dp_e hB
      refine rg_gp rfl rfl rfl (of_decide_eq_true c13) p15 ?_
      refine rg_p rfl rfl ?_
      refine rg_p rfl rfl ?_
      obtain ⟨r16, p17, hB⟩ := dp_e hB
      refine rg_gp rfl rfl rfl (of_decide_eq_true c13) p17 ?_
      show rg 112 43 _ _ _ _
      refine rg_p rfl rfl ?_
      obtain ⟨c18, hB⟩ := dg_e hB
      refine rg_ia rfl (ai_of c18) ?_
      obtain ⟨c19, hB⟩ := dg_e hB
      obtain ⟨h20, e21, hB⟩ := dl_e hB
      refine rg_is rfl (ai_of c19) e21 ?_
      refine rg_p (L' := [.ref l0, .int l1, .int l2, .int (l3 + (1 : Int32))]) rfl rfl ?_
      refine rg_p (pc' := 29) rfl rfl ?_
      exact ih _ _ _ _ h20 _ hB
def B_112_13 (f : Nat) (l0 : Nat) (l1 : Int32) (s0 : Int32) (s1 : Nat) (h : hp_T) : Option ev_O := (dg (decide (hp_k h s1 = some (8, 0))) (di (F_75 f s1 s0 (1 : Int32) h) fun v5 h2 => (db (ev_c .eq v5 0) (dg (decide (hp_k h2 l0 = some (8, 0))) (B_112_29 f  f l0 l1 (hp_z h2 l0 9) (0 : Int32) h2)) (some (.inl (some (.int (0 : Int32))), h2)))))
set_option maxRecDepth 20000 in
theorem sB_112_13 (f : Nat) (l0 : Nat) (l1 : Int32) (s0 : Int32) (s1 : Nat) (w2 : Value) (w3 : Value) (h : hp_T) (o : ev_O) (hB : B_112_13 f l0 l1 s0 s1 h = some o) : rg 112 13 [.ref l0, .int l1, w2, w3] [.int s0, .ref s1] h o := by
  unfold B_112_13 at hB
  refine rg_ic (v := (1 : Int32)) rfl (by decide) ?_
  obtain ⟨c1, hB⟩ := dg_e hB
  rcases di_e hB with ⟨v5, h2, z3, hB⟩ | ⟨q4, h2, z3, hB⟩
  · refine rg_call (rg_v9 (n := 2) (b := s1) (as := [.ref s1, .int s0, .int (1 : Int32)]) (ar := []) rfl rfl rfl (Nat.le_of_ble_eq_true rfl) rfl rfl (Nat.le_of_ble_eq_true rfl) (of_decide_eq_true c1)) (sF_75 z3) ?_
    rcases db_e hB with ⟨q6, hB⟩ | ⟨q6, hB⟩
    · refine rg_bt (t := 22) (pc' := 20) rfl rfl q6 ?_
      refine rg_p rfl rfl ?_
      obtain ⟨c7, hB⟩ := dg_e hB
      refine rg_gz rfl rfl rfl (of_decide_eq_true c7) ?_
      refine rg_p (L' := [.ref l0, .int l1, .int (hp_z h2 l0 9), w3]) rfl rfl ?_
      refine rg_ic (v := (0 : Int32)) rfl (by decide) ?_
      refine rg_p (L' := [.ref l0, .int l1, .int (hp_z h2 l0 9), .int (0 : Int32)]) rfl rfl ?_
      exact sB_112_29 f  f _ _ _ _ h2 _ hB
    · refine rg_bf (t := 22) (pc' := 20) rfl rfl q6 ?_
      refine rg_ic (v := (0 : Int32)) rfl (by decide) ?_
      cases hB
      exact rg_ri rfl rfl rfl
  · subst hB
    exact rg_callX (rg_v9 (n := 2) (b := s1) (as := [.ref s1, .int s0, .int (1 : Int32)]) (ar := []) rfl rfl rfl (Nat.le_of_ble_eq_true rfl) rfl rfl (Nat.le_of_ble_eq_true rfl) (of_decide_eq_true c1)) (sF_75 z3)
def F_112 (f : Nat) (a0 : Nat) (a1 : Int32) (h : hp_T) : Option ev_O := (di (F_76 f a1 h) fun v4 h1 => (db (ev_c .ne v4 0) (B_112_13 f  a0 a1 (0 : Int32) a0 h1) (B_112_13 f  a0 a1 (1 : Int32) a0 h1)))
set_option maxRecDepth 20000 in
theorem sF_112 {f : Nat} {a0 : Nat} {a1 : Int32} {h : hp_T} {o : ev_O} (hB : F_112 f a0 a1 h = some o) : rm 112 [.ref a0, .int a1] h o := by
  unfold F_112 at hB
  refine rm_in (L := [.ref a0, .int a1, .null, .null]) (Nat.le_of_ble_eq_true rfl) rfl ?_
  refine rg_p rfl rfl ?_
  refine rg_p rfl rfl ?_
  rcases di_e hB with ⟨v4, h1, z2, hB⟩ | ⟨q3, h1, z2, hB⟩
  · refine rg_call (rg_s9 (n := 1) (as := [.int a1]) (ar := []) rfl (rg_s0 rfl) rfl rfl (Nat.le_of_ble_eq_true rfl) rfl rfl (Nat.le_of_ble_eq_true rfl)) (sF_76 z2) ?_
    rcases db_e hB with ⟨q5, hB⟩ | ⟨q5, hB⟩
    · refine rg_bt (t := 12) (pc' := 8) rfl rfl q5 ?_
      refine rg_ic (v := (0 : Int32)) rfl (by decide) ?_
      exact sB_112_13 f  _ _ _ _ _ _ h1 _ hB
    · refine rg_bf (t := 12) (pc' := 8) rfl rfl q5 ?_
      refine rg_ic (v := (1 : Int32)) rfl (by decide) ?_
      refine rg_p (pc' := 13) rfl rfl ?_
      exact sB_112_13 f  _ _ _ _ _ _ h1 _ hB
  · subst hB
    exact rg_callX (rg_s9 (n := 1) (as := [.int a1]) (ar := []) rfl (rg_s0 rfl) rfl rfl (Nat.le_of_ble_eq_true rfl) rfl rfl (Nat.le_of_ble_eq_true rfl)) (sF_76 z2)
-- 113: RouteHouseModel.expire()V
def B_113_94 (f : Nat) (l0 : Nat) (h : hp_T) : Option ev_O := (dg (decide (hp_k h l0 = some (8, 0))) (dv (F_101 f l0 (0 : Int32) h) fun h2 => (some (.inl none, h2))))
set_option maxRecDepth 20000 in
theorem sB_113_94 (f : Nat) (l0 : Nat) (w1 : Value) (w2 : Value) (h : hp_T) (o : ev_O) (hB : B_113_94 f l0 h = some o) : rg 113 94 [.ref l0, w1, w2] [] h o := by
  unfold B_113_94 at hB
  refine rg_p rfl rfl ?_
  refine rg_ic (v := (0 : Int32)) rfl (by decide) ?_
  obtain ⟨c1, hB⟩ := dg_e hB
  rcases dv_e hB with ⟨h2, z3, hB⟩ | ⟨q4, h2, z3, hB⟩
  · refine rg_call (rg_v9 (n := 1) (b := l0) (as := [.ref l0, .int (0 : Int32)]) (ar := []) rfl rfl rfl (Nat.le_of_ble_eq_true rfl) rfl rfl (Nat.le_of_ble_eq_true rfl) (of_decide_eq_true c1)) (sF_101 z3) ?_
    cases hB
    exact rg_rv rfl rfl
  · subst hB
    exact rg_callX (rg_v9 (n := 1) (b := l0) (as := [.ref l0, .int (0 : Int32)]) (ar := []) rfl rfl rfl (Nat.le_of_ble_eq_true rfl) rfl rfl (Nat.le_of_ble_eq_true rfl) (of_decide_eq_true c1)) (sF_101 z3)
def B_113_38 (f : Nat) : Nat → Nat → Int32 → Int32 → hp_T → Option ev_O
  | 0, _, _, _, _ => none
  | g + 1, l0, l1, l2, h => (dg (decide (hp_k h l0 = some (8, 0))) (dp (hp_p h l0 38) fun r2 => (dg (aib 64 h r2 (0 : Int32)) (db (ev_c .ge l2 (hp_z h r2 (Int32.toNatClampNeg (0 : Int32)))) (dl (wz h l0 12 (l1 + (hp_z h r2 (Int32.toNatClampNeg (0 : Int32))))) fun h6 => (dg (decide (hp_k h6 l0 = some (8, 0))) (dp (hp_p h6 l0 39) fun r9 => (dg (aib 64 h6 r9 (0 : Int32)) (dv (F_98 f l0 (hp_z h6 r9 (Int32.toNatClampNeg (0 : Int32))) (11 : Int32) (1 : Int32) (0 : Int32) h6) fun h12 => (B_113_94 f  l0 h12)))))) (dp (hp_p h l0 10) fun r15 => (dp (hp_p h l0 37) fun r17 => (dg (aib 64 h r17 l2) (dg (aib 64 h r15 (l1 + l2)) (dl (wz h r15 (Int32.toNatClampNeg (l1 + l2)) (hp_z h r17 (Int32.toNatClampNeg l2))) fun h21 => ((B_113_38 f g) l0 l1 (l2 + (1 : Int32)) h21))))))))))
set_option maxRecDepth 20000 in
theorem sB_113_38 (f : Nat) : ∀ (g : Nat) (l0 : Nat) (l1 : Int32) (l2 : Int32) (h : hp_T) (o : ev_O), B_113_38 f g l0 l1 l2 h = some o → rg 113 38 [.ref l0, .int l1, .int l2] [] h o := by
  intro g
  induction g with
  | zero =>
    intro l0 l1 l2  h o hB
    rw [B_113_38] at hB
    cases hB
  | succ g ih =>
    intro l0 l1 l2  h o hB
    rw [B_113_38] at hB
    refine rg_p rfl rfl ?_
    refine rg_p rfl rfl ?_
    obtain ⟨c1, hB⟩ := dg_e hB
    obtain ⟨r2, p3, hB⟩ := dp_e hB
    refine rg_gp rfl rfl rfl (of_decide_eq_true c1) p3 ?_
    refine rg_ic (v := (0 : Int32)) rfl (by decide) ?_
    obtain ⟨c4, hB⟩ := dg_e hB
    refine rg_ia rfl (ai_of c4) ?_
    show rg 113 45 _ _ _ _
    rcases db_e hB with ⟨q5, hB⟩ | ⟨q5, hB⟩
    · refine rg_bt (t := 68) (pc' := 48) rfl rfl q5 ?_
      refine rg_p rfl rfl ?_
      refine rg_p rfl rfl ?_
      refine rg_p rfl rfl ?_
      refine rg_gp rfl rfl rfl (of_decide_eq_true c1) p3 ?_
      refine rg_ic (v := (0 : Int32)) rfl (by decide) ?_
      show rg 113 75 _ _ _ _
      refine rg_ia rfl (ai_of c4) ?_
      refine rg_p rfl rfl ?_
      obtain ⟨h6, e7, hB⟩ := dl_e hB
      refine rg_pi rfl rfl rfl (of_decide_eq_true c1) e7 ?_
      refine rg_p rfl rfl ?_
      refine rg_p rfl rfl ?_
      obtain ⟨c8, hB⟩ := dg_e hB
      obtain ⟨r9, p10, hB⟩ := dp_e hB
      refine rg_gp rfl rfl rfl (of_decide_eq_true c8) p10 ?_
      show rg 113 85 _ _ _ _
      refine rg_ic (v := (0 : Int32)) rfl (by decide) ?_
      obtain ⟨c11, hB⟩ := dg_e hB
      refine rg_ia rfl (ai_of c11) ?_
      refine rg_bi (v := (11 : Int32)) rfl (by decide) ?_
      refine rg_ic (v := (1 : Int32)) rfl (by decide) ?_
      refine rg_ic (v := (0 : Int32)) rfl (by decide) ?_
      rcases dv_e hB with ⟨h12, z13, hB⟩ | ⟨q14, h12, z13, hB⟩
      · refine rg_call (rg_v9 (n := 4) (b := l0) (as := [.ref l0, .int (hp_z h6 r9 (Int32.toNatClampNeg (0 : Int32))), .int (11 : Int32), .int (1 : Int32), .int (0 : Int32)]) (ar := []) rfl rfl rfl (Nat.le_of_ble_eq_true rfl) rfl rfl (Nat.le_of_ble_eq_true rfl) (of_decide_eq_true c8)) (sF_98 z13) ?_
        exact sB_113_94 f  _ _ _ h12 _ hB
      · subst hB
        exact rg_callX (rg_v9 (n := 4) (b := l0) (as := [.ref l0, .int (hp_z h6 r9 (Int32.toNatClampNeg (0 : Int32))), .int (11 : Int32), .int (1 : Int32), .int (0 : Int32)]) (ar := []) rfl rfl rfl (Nat.le_of_ble_eq_true rfl) rfl rfl (Nat.le_of_ble_eq_true rfl) (of_decide_eq_true c8)) (sF_98 z13)
    · refine rg_bf (t := 68) (pc' := 48) rfl rfl q5 ?_
      refine rg_p rfl rfl ?_
      obtain ⟨r15, p16, hB⟩ := dp_e hB
      refine rg_gp rfl rfl rfl (of_decide_eq_true c1) p16 ?_
      refine rg_p rfl rfl ?_
      refine rg_p rfl rfl ?_
      refine rg_p rfl rfl ?_
      show rg 113 55 _ _ _ _
      refine rg_p rfl rfl ?_
      obtain ⟨r17, p18, hB⟩ := dp_e hB
      refine rg_gp rfl rfl rfl (of_decide_eq_true c1) p18 ?_
      refine rg_p rfl rfl ?_
      obtain ⟨c19, hB⟩ := dg_e hB
      refine rg_ia rfl (ai_of c19) ?_
      obtain ⟨c20, hB⟩ := dg_e hB
      obtain ⟨h21, e22, hB⟩ := dl_e hB
      refine rg_is rfl (ai_of c20) e22 ?_
      refine rg_p (L' := [.ref l0, .int l1, .int (l2 + (1 : Int32))]) rfl rfl ?_
      show rg 113 65 _ _ _ _
      refine rg_p (pc' := 38) rfl rfl ?_
      exact ih _ _ _ h21 _ hB
def B_113_13 (f : Nat) : Nat → Nat → Int32 → Int32 → hp_T → Option ev_O
  | 0, _, _, _, _ => none
  | g + 1, l0, l1, l2, h => (db (ev_c .ge l2 l1) (B_113_38 f  f l0 l1 (0 : Int32) h) (dg (decide (hp_k h l0 = some (8, 0))) (dp (hp_p h l0 10) fun r3 => (dp (hp_p h l0 36) fun r5 => (dg (aib 64 h r5 l2) (dg (aib 64 h r3 l2) (dl (wz h r3 (Int32.toNatClampNeg l2) (hp_z h r5 (Int32.toNatClampNeg l2))) fun h9 => ((B_113_13 f g) l0 l1 (l2 + (1 : Int32)) h9))))))))
set_option maxRecDepth 20000 in
theorem sB_113_13 (f : Nat) : ∀ (g : Nat) (l0 : Nat) (l1 : Int32) (l2 : Int32) (h : hp_T) (o : ev_O), B_113_13 f g l0 l1 l2 h = some o → rg 113 13 [.ref l0, .int l1, .int l2] [] h o := by
  intro g
  induction g with
  | zero =>
    intro l0 l1 l2  h o hB
    rw [B_113_13] at hB
    cases hB
  | succ g ih =>
    intro l0 l1 l2  h o hB
    rw [B_113_13] at hB
    refine rg_p rfl rfl ?_
    refine rg_p rfl rfl ?_
    rcases db_e hB with ⟨q1, hB⟩ | ⟨q1, hB⟩
    · refine rg_bt (t := 36) (pc' := 18) rfl rfl q1 ?_
      refine rg_ic (v := (0 : Int32)) rfl (by decide) ?_
      refine rg_p (L' := [.ref l0, .int l1, .int (0 : Int32)]) rfl rfl ?_
      exact sB_113_38 f  f _ _ _ h _ hB
    · refine rg_bf (t := 36) (pc' := 18) rfl rfl q1 ?_
      refine rg_p rfl rfl ?_
      obtain ⟨c2, hB⟩ := dg_e hB
      obtain ⟨r3, p4, hB⟩ := dp_e hB
      refine rg_gp rfl rfl rfl (of_decide_eq_true c2) p4 ?_
      refine rg_p rfl rfl ?_
      refine rg_p rfl rfl ?_
      obtain ⟨r5, p6, hB⟩ := dp_e hB
      refine rg_gp rfl rfl rfl (of_decide_eq_true c2) p6 ?_
      show rg 113 27 _ _ _ _
      refine rg_p rfl rfl ?_
      obtain ⟨c7, hB⟩ := dg_e hB
      refine rg_ia rfl (ai_of c7) ?_
      obtain ⟨c8, hB⟩ := dg_e hB
      obtain ⟨h9, e10, hB⟩ := dl_e hB
      refine rg_is rfl (ai_of c8) e10 ?_
      refine rg_p (L' := [.ref l0, .int l1, .int (l2 + (1 : Int32))]) rfl rfl ?_
      refine rg_p (pc' := 13) rfl rfl ?_
      exact ih _ _ _ h9 _ hB
def F_113 (f : Nat) (a0 : Nat) (h : hp_T) : Option ev_O := (dg (decide (hp_k h a0 = some (8, 0))) (dp (hp_p h a0 35) fun r2 => (dg (aib 64 h r2 (0 : Int32)) (db (ev_c .le (hp_z h r2 (Int32.toNatClampNeg (0 : Int32))) 0) (B_113_94 f  a0 h) (B_113_13 f  f a0 (hp_z h r2 (Int32.toNatClampNeg (0 : Int32))) (0 : Int32) h)))))
set_option maxRecDepth 20000 in
theorem sF_113 {f : Nat} {a0 : Nat} {h : hp_T} {o : ev_O} (hB : F_113 f a0 h = some o) : rm 113 [.ref a0] h o := by
  unfold F_113 at hB
  refine rm_in (L := [.ref a0, .null, .null]) (Nat.le_of_ble_eq_true rfl) rfl ?_
  refine rg_p rfl rfl ?_
  obtain ⟨c1, hB⟩ := dg_e hB
  obtain ⟨r2, p3, hB⟩ := dp_e hB
  refine rg_gp rfl rfl rfl (of_decide_eq_true c1) p3 ?_
  refine rg_ic (v := (0 : Int32)) rfl (by decide) ?_
  obtain ⟨c4, hB⟩ := dg_e hB
  refine rg_ia rfl (ai_of c4) ?_
  refine rg_p (L' := [.ref a0, .int (hp_z h r2 (Int32.toNatClampNeg (0 : Int32))), .null]) rfl rfl ?_
  show rg 113 7 _ _ _ _
  refine rg_p rfl rfl ?_
  rcases db_e hB with ⟨q5, hB⟩ | ⟨q5, hB⟩
  · refine rg_bt (t := 94) (pc' := 11) rfl rfl q5 ?_
    exact sB_113_94 f  _ _ _ h _ hB
  · refine rg_bf (t := 94) (pc' := 11) rfl rfl q5 ?_
    refine rg_ic (v := (0 : Int32)) rfl (by decide) ?_
    refine rg_p (L' := [.ref a0, .int (hp_z h r2 (Int32.toNatClampNeg (0 : Int32))), .int (0 : Int32)]) rfl rfl ?_
    exact sB_113_13 f  f _ _ _ h _ hB
