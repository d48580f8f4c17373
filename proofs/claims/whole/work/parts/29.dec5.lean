-- 73: RouteHouseModel.<init>()V
def B_73_251 (f : Nat) : Nat → Nat → Int32 → hp_T → Option ev_O
  | 0, _, _, _ => none
  | g + 1, l0, l1, h => (db (ev_c .ge l1 (8 : Int32)) (some (.inl none, h)) (dg (decide (hp_k h l0 = some (8, 0))) (dp (hp_p h l0 1) fun r3 => (dg (aib 64 h r3 l1) (dl (wz h r3 (Int32.toNatClampNeg l1) (1500 : Int32)) fun h6 => ((B_73_251 f g) l0 (l1 + (1 : Int32)) h6))))))
theorem sB_73_251 (f : Nat) : ∀ (g : Nat) (l0 : Nat) (l1 : Int32) (h : hp_T) (o : ev_O), B_73_251 f g l0 l1 h = some o → rg 73 251 [.ref l0, .int l1] [] h o := by
  intro g
  induction g with
  | zero =>
    intro l0 l1  h o hB
    rw [B_73_251] at hB
    cases hB
  | succ g ih =>
    intro l0 l1  h o hB
    rw [B_73_251] at hB
    refine rg_p rfl rfl ?_
    refine rg_bi (v := (8 : Int32)) rfl (by decide) ?_
    rcases db_e hB with ⟨q1, hB⟩ | ⟨q1, hB⟩
    · refine rg_bt (t := 272) (pc' := 257) rfl rfl q1 ?_
      cases hB
      exact rg_rv rfl rfl
    · refine rg_bf (t := 272) (pc' := 257) rfl rfl q1 ?_
      refine rg_p rfl rfl ?_
      obtain ⟨c2, hB⟩ := dg_e hB
      obtain ⟨r3, p4, hB⟩ := dp_e hB
      refine rg_gp rfl rfl rfl (of_decide_eq_true c2) p4 ?_
      refine rg_p rfl rfl ?_
      refine rg_si (v := (1500 : Int32)) rfl (by decide) ?_
      obtain ⟨c5, hB⟩ := dg_e hB
      obtain ⟨h6, e7, hB⟩ := dl_e hB
      refine rg_is rfl (ai_of c5) e7 ?_
      show rg 73 266 _ _ _ _
      refine rg_p (L' := [.ref l0, .int (l1 + (1 : Int32))]) rfl rfl ?_
      refine rg_p (pc' := 251) rfl rfl ?_
      exact ih _ _ h6 _ hB
def F_73 (f : Nat) (a0 : Nat) (h : hp_T) : Option ev_O := (dl (hp_new h 64 (Int32.toNatClampNeg (8 : Int32)) (Int32.toNatClampNeg (8 : Int32))) fun h1 => (dg (decide (hp_k h1 a0 = some (8, 0))) (dl (hp_pw h1 a0 0 (some h.1.length)) fun h4 => (dl (hp_new h4 64 (Int32.toNatClampNeg (8 : Int32)) (Int32.toNatClampNeg (8 : Int32))) fun h6 => (dg (decide (hp_k h6 a0 = some (8, 0))) (dl (hp_pw h6 a0 1 (some h4.1.length)) fun h9 => (dl (hp_new h9 66 (Int32.toNatClampNeg (8 : Int32)) (Int32.toNatClampNeg (8 : Int32))) fun h11 => (dg (decide (hp_k h11 a0 = some (8, 0))) (dl (hp_pw h11 a0 2 (some h9.1.length)) fun h14 => (dl (hp_new h14 64 (Int32.toNatClampNeg (400 : Int32)) (Int32.toNatClampNeg (400 : Int32))) fun h16 => (dg (decide (hp_k h16 a0 = some (8, 0))) (dl (hp_pw h16 a0 3 (some h14.1.length)) fun h19 => (dl (hp_new h19 64 (Int32.toNatClampNeg (400 : Int32)) (Int32.toNatClampNeg (400 : Int32))) fun h21 => (dg (decide (hp_k h21 a0 = some (8, 0))) (dl (hp_pw h21 a0 4 (some h19.1.length)) fun h24 => (dl (hp_new h24 64 (Int32.toNatClampNeg (400 : Int32)) (Int32.toNatClampNeg (400 : Int32))) fun h26 => (dg (decide (hp_k h26 a0 = some (8, 0))) (dl (hp_pw h26 a0 5 (some h24.1.length)) fun h29 => (dl (hp_new h29 64 (Int32.toNatClampNeg (400 : Int32)) (Int32.toNatClampNeg (400 : Int32))) fun h31 => (dg (decide (hp_k h31 a0 = some (8, 0))) (dl (hp_pw h31 a0 6 (some h29.1.length)) fun h34 => (dl (hp_new h34 64 (Int32.toNatClampNeg (2000 : Int32)) (Int32.toNatClampNeg (2000 : Int32))) fun h36 => (dg (decide (hp_k h36 a0 = some (8, 0))) (dl (hp_pw h36 a0 8 (some h34.1.length)) fun h39 => (dl (hp_new h39 64 (Int32.toNatClampNeg (4100 : Int32)) (Int32.toNatClampNeg (4100 : Int32))) fun h41 => (dg (decide (hp_k h41 a0 = some (8, 0))) (dl (hp_pw h41 a0 10 (some h39.1.length)) fun h44 => (dl (hp_new h44 64 (Int32.toNatClampNeg (4200 : Int32)) (Int32.toNatClampNeg (4200 : Int32))) fun h46 => (dg (decide (hp_k h46 a0 = some (8, 0))) (dl (hp_pw h46 a0 11 (some h44.1.length)) fun h49 => (dl (hp_new h49 64 (Int32.toNatClampNeg (24000 : Int32)) (Int32.toNatClampNeg (24000 : Int32))) fun h51 => (dg (decide (hp_k h51 a0 = some (8, 0))) (dl (hp_pw h51 a0 14 (some h49.1.length)) fun h54 => (dl (hp_new h54 64 (Int32.toNatClampNeg (300 : Int32)) (Int32.toNatClampNeg (300 : Int32))) fun h56 => (dg (decide (hp_k h56 a0 = some (8, 0))) (dl (hp_pw h56 a0 15 (some h54.1.length)) fun h59 => (dl (hp_new h59 64 (Int32.toNatClampNeg (300 : Int32)) (Int32.toNatClampNeg (300 : Int32))) fun h61 => (dg (decide (hp_k h61 a0 = some (8, 0))) (dl (hp_pw h61 a0 16 (some h59.1.length)) fun h64 => (dl (hp_new h64 64 (Int32.toNatClampNeg (300 : Int32)) (Int32.toNatClampNeg (300 : Int32))) fun h66 => (dg (decide (hp_k h66 a0 = some (8, 0))) (dl (hp_pw h66 a0 17 (some h64.1.length)) fun h69 => (dl (hp_new h69 64 (Int32.toNatClampNeg (300 : Int32)) (Int32.toNatClampNeg (300 : Int32))) fun h71 => (dg (decide (hp_k h71 a0 = some (8, 0))) (dl (hp_pw h71 a0 18 (some h69.1.length)) fun h74 => (dg (decide (hp_k h74 a0 = some (8, 0))) (dl (wz h74 a0 20 (6 : Int32)) fun h77 => (dl (hp_new h77 64 (Int32.toNatClampNeg (4000 : Int32)) (Int32.toNatClampNeg (4000 : Int32))) fun h79 => (dg (decide (hp_k h79 a0 = some (8, 0))) (dl (hp_pw h79 a0 27 (some h77.1.length)) fun h82 => (dl (hp_new h82 64 (Int32.toNatClampNeg (4 : Int32)) (Int32.toNatClampNeg (4 : Int32))) fun h84 => (dg (decide (hp_k h84 a0 = some (8, 0))) (dl (hp_pw h84 a0 29 (some h82.1.length)) fun h87 => (dl (hp_new h87 64 (Int32.toNatClampNeg (4 : Int32)) (Int32.toNatClampNeg (4 : Int32))) fun h89 => (dg (decide (hp_k h89 a0 = some (8, 0))) (dl (hp_pw h89 a0 30 (some h87.1.length)) fun h92 => (dl (hp_new h92 64 (Int32.toNatClampNeg (4 : Int32)) (Int32.toNatClampNeg (4 : Int32))) fun h94 => (dg (decide (hp_k h94 a0 = some (8, 0))) (dl (hp_pw h94 a0 31 (some h92.1.length)) fun h97 => (dl (hp_new h97 64 (Int32.toNatClampNeg (4 : Int32)) (Int32.toNatClampNeg (4 : Int32))) fun h99 => (dg (decide (hp_k h99 a0 = some (8, 0))) (dl (hp_pw h99 a0 32 (some h97.1.length)) fun h102 => (dl (hp_new h102 64 (Int32.toNatClampNeg (4 : Int32)) (Int32.toNatClampNeg (4 : Int32))) fun h104 => (dg (decide (hp_k h104 a0 = some (8, 0))) (dl (hp_pw h104 a0 33 (some h102.1.length)) fun h107 => (dl (hp_new h107 64 (Int32.toNatClampNeg (4 : Int32)) (Int32.toNatClampNeg (4 : Int32))) fun h109 => (dg (decide (hp_k h109 a0 = some (8, 0))) (dl (hp_pw h109 a0 34 (some h107.1.length)) fun h112 => (dl (hp_new h112 64 (Int32.toNatClampNeg (4 : Int32)) (Int32.toNatClampNeg (4 : Int32))) fun h114 => (dg (decide (hp_k h114 a0 = some (8, 0))) (dl (hp_pw h114 a0 35 (some h112.1.length)) fun h117 => (dl (hp_new h117 64 (Int32.toNatClampNeg (240 : Int32)) (Int32.toNatClampNeg (240 : Int32))) fun h119 => (dg (decide (hp_k h119 a0 = some (8, 0))) (dl (hp_pw h119 a0 36 (some h117.1.length)) fun h122 => (dl (hp_new h122 64 (Int32.toNatClampNeg (32 : Int32)) (Int32.toNatClampNeg (32 : Int32))) fun h124 => (dg (decide (hp_k h124 a0 = some (8, 0))) (dl (hp_pw h124 a0 37 (some h122.1.length)) fun h127 => (dl (hp_new h127 64 (Int32.toNatClampNeg (4 : Int32)) (Int32.toNatClampNeg (4 : Int32))) fun h129 => (dg (decide (hp_k h129 a0 = some (8, 0))) (dl (hp_pw h129 a0 38 (some h127.1.length)) fun h132 => (dl (hp_new h132 64 (Int32.toNatClampNeg (4 : Int32)) (Int32.toNatClampNeg (4 : Int32))) fun h134 => (dg (decide (hp_k h134 a0 = some (8, 0))) (dl (hp_pw h134 a0 39 (some h132.1.length)) fun h137 => (dl (hp_new h137 64 (Int32.toNatClampNeg (16000 : Int32)) (Int32.toNatClampNeg (16000 : Int32))) fun h139 => (dg (decide (hp_k h139 a0 = some (8, 0))) (dl (hp_pw h139 a0 40 (some h137.1.length)) fun h142 => (dl (hp_new h142 66 (Int32.toNatClampNeg (16000 : Int32)) (Int32.toNatClampNeg (16000 : Int32))) fun h144 => (dg (decide (hp_k h144 a0 = some (8, 0))) (dl (hp_pw h144 a0 41 (some h142.1.length)) fun h147 => (B_73_251 f  f a0 (0 : Int32) h147))))))))))))))))))))))))))))))))))))))))))))))))))))))))))))))))))))))))))))))))))))))))))
theorem sF_73 {f : Nat} {a0 : Nat} {h : hp_T} {o : ev_O} (hB : F_73 f a0 h = some o) : rm 73 [.ref a0] h o := by
  unfold F_73 at hB
  refine rm_in (L := [.ref a0, .null]) (Nat.le_of_ble_eq_true rfl) rfl ?_
  refine rg_p rfl rfl ?_
  refine rg_oi rfl rfl (Nat.le_of_ble_eq_true rfl) ?_
  refine rg_p rfl rfl ?_
  refine rg_bi (v := (8 : Int32)) rfl (by decide) ?_
  obtain ⟨h1, e2, hB⟩ := dl_e hB
  refine rg_na (t := 64) rfl (by decide) rfl ⟨by decide, by decide⟩ e2 ?_
  show rg 73 9 _ _ _ _
  obtain ⟨c3, hB⟩ := dg_e hB
  obtain ⟨h4, e5, hB⟩ := dl_e hB
  refine rg_pp rfl rfl rfl (of_decide_eq_true c3) e5 ?_
  refine rg_p rfl rfl ?_
  refine rg_bi (v := (8 : Int32)) rfl (by decide) ?_
  obtain ⟨h6, e7, hB⟩ := dl_e hB
  refine rg_na (t := 64) rfl (by decide) rfl ⟨by decide, by decide⟩ e7 ?_
  obtain ⟨c8, hB⟩ := dg_e hB
  obtain ⟨h9, e10, hB⟩ := dl_e hB
  refine rg_pp rfl rfl rfl (of_decide_eq_true c8) e10 ?_
  refine rg_p rfl rfl ?_
  show rg 73 21 _ _ _ _
  refine rg_bi (v := (8 : Int32)) rfl (by decide) ?_
  obtain ⟨h11, e12, hB⟩ := dl_e hB
  refine rg_na (t := 66) rfl (by decide) rfl ⟨by decide, by decide⟩ e12 ?_
  obtain ⟨c13, hB⟩ := dg_e hB
  obtain ⟨h14, e15, hB⟩ := dl_e hB
  refine rg_pp rfl rfl rfl (of_decide_eq_true c13) e15 ?_
  refine rg_p rfl rfl ?_
  refine rg_si (v := (400 : Int32)) rfl (by decide) ?_
  obtain ⟨h16, e17, hB⟩ := dl_e hB
  refine rg_na (t := 64) rfl (by decide) rfl ⟨by decide, by decide⟩ e17 ?_
  show rg 73 34 _ _ _ _
  obtain ⟨c18, hB⟩ := dg_e hB
  obtain ⟨h19, e20, hB⟩ := dl_e hB
  refine rg_pp rfl rfl rfl (of_decide_eq_true c18) e20 ?_
  refine rg_p rfl rfl ?_
  refine rg_si (v := (400 : Int32)) rfl (by decide) ?_
  obtain ⟨h21, e22, hB⟩ := dl_e hB
  refine rg_na (t := 64) rfl (by decide) rfl ⟨by decide, by decide⟩ e22 ?_
  obtain ⟨c23, hB⟩ := dg_e hB
  obtain ⟨h24, e25, hB⟩ := dl_e hB
  refine rg_pp rfl rfl rfl (of_decide_eq_true c23) e25 ?_
  refine rg_p rfl rfl ?_
  show rg 73 47 _ _ _ _
  refine rg_si (v := (400 : Int32)) rfl (by decide) ?_
  obtain ⟨h26, e27, hB⟩ := dl_e hB
  refine rg_na (t := 64) rfl (by decide) rfl ⟨by decide, by decide⟩ e27 ?_
  obtain ⟨c28, hB⟩ := dg_e hB
  obtain ⟨h29, e30, hB⟩ := dl_e hB
  refine rg_pp rfl rfl rfl (of_decide_eq_true c28) e30 ?_
  refine rg_p rfl rfl ?_
  refine rg_si (v := (400 : Int32)) rfl (by decide) ?_
  obtain ⟨h31, e32, hB⟩ := dl_e hB
  refine rg_na (t := 64) rfl (by decide) rfl ⟨by decide, by decide⟩ e32 ?_
  show rg 73 61 _ _ _ _
  obtain ⟨c33, hB⟩ := dg_e hB
  obtain ⟨h34, e35, hB⟩ := dl_e hB
  refine rg_pp rfl rfl rfl (of_decide_eq_true c33) e35 ?_
  refine rg_p rfl rfl ?_
  refine rg_si (v := (2000 : Int32)) rfl (by decide) ?_
  obtain ⟨h36, e37, hB⟩ := dl_e hB
  refine rg_na (t := 64) rfl (by decide) rfl ⟨by decide, by decide⟩ e37 ?_
  obtain ⟨c38, hB⟩ := dg_e hB
  obtain ⟨h39, e40, hB⟩ := dl_e hB
  refine rg_pp rfl rfl rfl (of_decide_eq_true c38) e40 ?_
  refine rg_p rfl rfl ?_
  show rg 73 74 _ _ _ _
  refine rg_si (v := (4100 : Int32)) rfl (by decide) ?_
  obtain ⟨h41, e42, hB⟩ := dl_e hB
  refine rg_na (t := 64) rfl (by decide) rfl ⟨by decide, by decide⟩ e42 ?_
  obtain ⟨c43, hB⟩ := dg_e hB
  obtain ⟨h44, e45, hB⟩ := dl_e hB
  refine rg_pp rfl rfl rfl (of_decide_eq_true c43) e45 ?_
  refine rg_p rfl rfl ?_
  refine rg_si (v := (4200 : Int32)) rfl (by decide) ?_
  obtain ⟨h46, e47, hB⟩ := dl_e hB
  refine rg_na (t := 64) rfl (by decide) rfl ⟨by decide, by decide⟩ e47 ?_
  show rg 73 88 _ _ _ _
  obtain ⟨c48, hB⟩ := dg_e hB
  obtain ⟨h49, e50, hB⟩ := dl_e hB
  refine rg_pp rfl rfl rfl (of_decide_eq_true c48) e50 ?_
  refine rg_p rfl rfl ?_
  refine rg_si (v := (24000 : Int32)) rfl (by decide) ?_
  obtain ⟨h51, e52, hB⟩ := dl_e hB
  refine rg_na (t := 64) rfl (by decide) rfl ⟨by decide, by decide⟩ e52 ?_
  obtain ⟨c53, hB⟩ := dg_e hB
  obtain ⟨h54, e55, hB⟩ := dl_e hB
  refine rg_pp rfl rfl rfl (of_decide_eq_true c53) e55 ?_
  refine rg_p rfl rfl ?_
  show rg 73 101 _ _ _ _
  refine rg_si (v := (300 : Int32)) rfl (by decide) ?_
  obtain ⟨h56, e57, hB⟩ := dl_e hB
  refine rg_na (t := 64) rfl (by decide) rfl ⟨by decide, by decide⟩ e57 ?_
  obtain ⟨c58, hB⟩ := dg_e hB
  obtain ⟨h59, e60, hB⟩ := dl_e hB
  refine rg_pp rfl rfl rfl (of_decide_eq_true c58) e60 ?_
  refine rg_p rfl rfl ?_
  refine rg_si (v := (300 : Int32)) rfl (by decide) ?_
  obtain ⟨h61, e62, hB⟩ := dl_e hB
  refine rg_na (t := 64) rfl (by decide) rfl ⟨by decide, by decide⟩ e62 ?_
  show rg 73 115 _ _ _ _
  obtain ⟨c63, hB⟩ := dg_e hB
  obtain ⟨h64, e65, hB⟩ := dl_e hB
  refine rg_pp rfl rfl rfl (of_decide_eq_true c63) e65 ?_
  refine rg_p rfl rfl ?_
  refine rg_si (v := (300 : Int32)) rfl (by decide) ?_
  obtain ⟨h66, e67, hB⟩ := dl_e hB
  refine rg_na (t := 64) rfl (by decide) rfl ⟨by decide, by decide⟩ e67 ?_
  obtain ⟨c68, hB⟩ := dg_e hB
  obtain ⟨h69, e70, hB⟩ := dl_e hB
  refine rg_pp rfl rfl rfl (of_decide_eq_true c68) e70 ?_
  refine rg_p rfl rfl ?_
  show rg 73 128 _ _ _ _
  refine rg_si (v := (300 : Int32)) rfl (by decide) ?_
  obtain ⟨h71, e72, hB⟩ := dl_e hB
  refine rg_na (t := 64) rfl (by decide) rfl ⟨by decide, by decide⟩ e72 ?_
  obtain ⟨c73, hB⟩ := dg_e hB
  obtain ⟨h74, e75, hB⟩ := dl_e hB
  refine rg_pp rfl rfl rfl (of_decide_eq_true c73) e75 ?_
  refine rg_p rfl rfl ?_
  refine rg_bi (v := (6 : Int32)) rfl (by decide) ?_
  obtain ⟨c76, hB⟩ := dg_e hB
  obtain ⟨h77, e78, hB⟩ := dl_e hB
  refine rg_pi rfl rfl rfl (of_decide_eq_true c76) e78 ?_
  show rg 73 142 _ _ _ _
  refine rg_p rfl rfl ?_
  refine rg_si (v := (4000 : Int32)) rfl (by decide) ?_
  obtain ⟨h79, e80, hB⟩ := dl_e hB
  refine rg_na (t := 64) rfl (by decide) rfl ⟨by decide, by decide⟩ e80 ?_
  obtain ⟨c81, hB⟩ := dg_e hB
  obtain ⟨h82, e83, hB⟩ := dl_e hB
  refine rg_pp rfl rfl rfl (of_decide_eq_true c81) e83 ?_
  refine rg_p rfl rfl ?_
  refine rg_ic (v := (4 : Int32)) rfl (by decide) ?_
  show rg 73 153 _ _ _ _
  obtain ⟨h84, e85, hB⟩ := dl_e hB
  refine rg_na (t := 64) rfl (by decide) rfl ⟨by decide, by decide⟩ e85 ?_
  obtain ⟨c86, hB⟩ := dg_e hB
  obtain ⟨h87, e88, hB⟩ := dl_e hB
  refine rg_pp rfl rfl rfl (of_decide_eq_true c86) e88 ?_
  refine rg_p rfl rfl ?_
  refine rg_ic (v := (4 : Int32)) rfl (by decide) ?_
  obtain ⟨h89, e90, hB⟩ := dl_e hB
  refine rg_na (t := 64) rfl (by decide) rfl ⟨by decide, by decide⟩ e90 ?_
  obtain ⟨c91, hB⟩ := dg_e hB
  obtain ⟨h92, e93, hB⟩ := dl_e hB
  refine rg_pp rfl rfl rfl (of_decide_eq_true c91) e93 ?_
  show rg 73 165 _ _ _ _
  refine rg_p rfl rfl ?_
  refine rg_ic (v := (4 : Int32)) rfl (by decide) ?_
  obtain ⟨h94, e95, hB⟩ := dl_e hB
  refine rg_na (t := 64) rfl (by decide) rfl ⟨by decide, by decide⟩ e95 ?_
  obtain ⟨c96, hB⟩ := dg_e hB
  obtain ⟨h97, e98, hB⟩ := dl_e hB
  refine rg_pp rfl rfl rfl (of_decide_eq_true c96) e98 ?_
  refine rg_p rfl rfl ?_
  refine rg_ic (v := (4 : Int32)) rfl (by decide) ?_
  show rg 73 174 _ _ _ _
  obtain ⟨h99, e100, hB⟩ := dl_e hB
  refine rg_na (t := 64) rfl (by decide) rfl ⟨by decide, by decide⟩ e100 ?_
  obtain ⟨c101, hB⟩ := dg_e hB
  obtain ⟨h102, e103, hB⟩ := dl_e hB
  refine rg_pp rfl rfl rfl (of_decide_eq_true c101) e103 ?_
  refine rg_p rfl rfl ?_
  refine rg_ic (v := (4 : Int32)) rfl (by decide) ?_
  obtain ⟨h104, e105, hB⟩ := dl_e hB
  refine rg_na (t := 64) rfl (by decide) rfl ⟨by decide, by decide⟩ e105 ?_
  obtain ⟨c106, hB⟩ := dg_e hB
  obtain ⟨h107, e108, hB⟩ := dl_e hB
  refine rg_pp rfl rfl rfl (of_decide_eq_true c106) e108 ?_
  show rg 73 186 _ _ _ _
  refine rg_p rfl rfl ?_
  refine rg_ic (v := (4 : Int32)) rfl (by decide) ?_
  obtain ⟨h109, e110, hB⟩ := dl_e hB
  refine rg_na (t := 64) rfl (by decide) rfl ⟨by decide, by decide⟩ e110 ?_
  obtain ⟨c111, hB⟩ := dg_e hB
  obtain ⟨h112, e113, hB⟩ := dl_e hB
  refine rg_pp rfl rfl rfl (of_decide_eq_true c111) e113 ?_
  refine rg_p rfl rfl ?_
  refine rg_ic (v := (4 : Int32)) rfl (by decide) ?_
  show rg 73 195 _ _ _ _
  obtain ⟨h114, e115, hB⟩ := dl_e hB
  refine rg_na (t := 64) rfl (by decide) rfl ⟨by decide, by decide⟩ e115 ?_
  obtain ⟨c116, hB⟩ := dg_e hB
  obtain ⟨h117, e118, hB⟩ := dl_e hB
  refine rg_pp rfl rfl rfl (of_decide_eq_true c116) e118 ?_
  refine rg_p rfl rfl ?_
  refine rg_si (v := (240 : Int32)) rfl (by decide) ?_
  obtain ⟨h119, e120, hB⟩ := dl_e hB
  refine rg_na (t := 64) rfl (by decide) rfl ⟨by decide, by decide⟩ e120 ?_
  obtain ⟨c121, hB⟩ := dg_e hB
  obtain ⟨h122, e123, hB⟩ := dl_e hB
  refine rg_pp rfl rfl rfl (of_decide_eq_true c121) e123 ?_
  show rg 73 209 _ _ _ _
  refine rg_p rfl rfl ?_
  refine rg_bi (v := (32 : Int32)) rfl (by decide) ?_
  obtain ⟨h124, e125, hB⟩ := dl_e hB
  refine rg_na (t := 64) rfl (by decide) rfl ⟨by decide, by decide⟩ e125 ?_
  obtain ⟨c126, hB⟩ := dg_e hB
  obtain ⟨h127, e128, hB⟩ := dl_e hB
  refine rg_pp rfl rfl rfl (of_decide_eq_true c126) e128 ?_
  refine rg_p rfl rfl ?_
  refine rg_ic (v := (4 : Int32)) rfl (by decide) ?_
  show rg 73 219 _ _ _ _
  obtain ⟨h129, e130, hB⟩ := dl_e hB
  refine rg_na (t := 64) rfl (by decide) rfl ⟨by decide, by decide⟩ e130 ?_
  obtain ⟨c131, hB⟩ := dg_e hB
  obtain ⟨h132, e133, hB⟩ := dl_e hB
  refine rg_pp rfl rfl rfl (of_decide_eq_true c131) e133 ?_
  refine rg_p rfl rfl ?_
  refine rg_ic (v := (4 : Int32)) rfl (by decide) ?_
  obtain ⟨h134, e135, hB⟩ := dl_e hB
  refine rg_na (t := 64) rfl (by decide) rfl ⟨by decide, by decide⟩ e135 ?_
  obtain ⟨c136, hB⟩ := dg_e hB
  obtain ⟨h137, e138, hB⟩ := dl_e hB
  refine rg_pp rfl rfl rfl (of_decide_eq_true c136) e138 ?_
  show rg 73 231 _ _ _ _
  refine rg_p rfl rfl ?_
  refine rg_si (v := (16000 : Int32)) rfl (by decide) ?_
  obtain ⟨h139, e140, hB⟩ := dl_e hB
  refine rg_na (t := 64) rfl (by decide) rfl ⟨by decide, by decide⟩ e140 ?_
  obtain ⟨c141, hB⟩ := dg_e hB
  obtain ⟨h142, e143, hB⟩ := dl_e hB
  refine rg_pp rfl rfl rfl (of_decide_eq_true c141) e143 ?_
  refine rg_p rfl rfl ?_
  refine rg_si (v := (16000 : Int32)) rfl (by decide) ?_
  show rg 73 244 _ _ _ _
  obtain ⟨h144, e145, hB⟩ := dl_e hB
  refine rg_na (t := 66) rfl (by decide) rfl ⟨by decide, by decide⟩ e145 ?_
  obtain ⟨c146, hB⟩ := dg_e hB
  obtain ⟨h147, e148, hB⟩ := dl_e hB
  refine rg_pp rfl rfl rfl (of_decide_eq_true c146) e148 ?_
  refine rg_ic (v := (0 : Int32)) rfl (by decide) ?_
  refine rg_p (L' := [.ref a0, .int (0 : Int32)]) rfl rfl ?_
  exact sB_73_251 f  f _ _ h147 _ hB
-- 74: RouteHouseModel.thrown()I
def F_74 (f : Nat) (a0 : Nat) (h : hp_T) : Option ev_O := (dg (decide (hp_k h a0 = some (8, 0))) (some (.inl (some (.int (hp_z h a0 42))), h)))
theorem sF_74 {f : Nat} {a0 : Nat} {h : hp_T} {o : ev_O} (hB : F_74 f a0 h = some o) : rm 74 [.ref a0] h o := by
  unfold F_74 at hB
  refine rm_in (L := [.ref a0]) (Nat.le_of_ble_eq_true rfl) rfl ?_
  refine rg_p rfl rfl ?_
  obtain ⟨c1, hB⟩ := dg_e hB
  refine rg_gz rfl rfl rfl (of_decide_eq_true c1) ?_
  cases hB
  exact rg_ri rfl rfl rfl
-- 75: RouteHouseModel.fails(ZI)Z
def B_75_10 (f : Nat) (l1 : Int32) (s0 : Int32) (s1 : Nat) (h : hp_T) : Option ev_O := (dg (decide (hp_k h s1 = some (8, 0))) (dl (wz h s1 42 s0) fun h2 => (dg (dzb l1) (some (.inl (some (.int l1)), h2)))))
theorem sB_75_10 (f : Nat) (l1 : Int32) (s0 : Int32) (s1 : Nat) (w0 : Value) (w2 : Value) (h : hp_T) (o : ev_O) (hB : B_75_10 f l1 s0 s1 h = some o) : rg 75 10 [w0, .int l1, w2] [.int s0, .ref s1] h o := by
  unfold B_75_10 at hB
  obtain ⟨c1, hB⟩ := dg_e hB
  obtain ⟨h2, e3, hB⟩ := dl_e hB
  refine rg_pi rfl rfl rfl (of_decide_eq_true c1) e3 ?_
  refine rg_p rfl rfl ?_
  obtain ⟨c4, hB⟩ := dg_e hB
  cases hB
  exact rg_ri rfl rfl (dz_n (dz_of c4))
def F_75 (f : Nat) (a0 : Nat) (a1 : Int32) (a2 : Int32) (h : hp_T) : Option ev_O := (db (ev_c .eq a1 0) (B_75_10 f  a1 (0 : Int32) a0 h) (B_75_10 f  a1 a2 a0 h))
theorem sF_75 {f : Nat} {a0 : Nat} {a1 : Int32} {a2 : Int32} {h : hp_T} {o : ev_O} (hB : F_75 f a0 a1 a2 h = some o) : rm 75 [.ref a0, .int a1, .int a2] h o := by
  unfold F_75 at hB
  refine rm_in (L := [.ref a0, .int a1, .int a2]) (Nat.le_of_ble_eq_true rfl) rfl ?_
  refine rg_p rfl rfl ?_
  refine rg_p rfl rfl ?_
  rcases db_e hB with ⟨q1, hB⟩ | ⟨q1, hB⟩
  · refine rg_bt (t := 9) (pc' := 5) rfl rfl q1 ?_
    refine rg_ic (v := (0 : Int32)) rfl (by decide) ?_
    exact sB_75_10 f  _ _ _ _ _ h _ hB
  · refine rg_bf (t := 9) (pc' := 5) rfl rfl q1 ?_
    refine rg_p rfl rfl ?_
    refine rg_p (pc' := 10) rfl rfl ?_
    exact sB_75_10 f  _ _ _ _ _ h _ hB
-- 76: RouteHouseModel.isPort(I)Z
def B_76_15 (f : Nat) (s0 : Int32) (h : hp_T) : Option ev_O := (dg (dzb s0) (some (.inl (some (.int s0)), h)))
theorem sB_76_15 (f : Nat) (s0 : Int32) (w0 : Value) (h : hp_T) (o : ev_O) (hB : B_76_15 f s0 h = some o) : rg 76 15 [w0] [.int s0] h o := by
  unfold B_76_15 at hB
  obtain ⟨c1, hB⟩ := dg_e hB
  cases hB
  exact rg_ri rfl rfl (dz_n (dz_of c1))
def B_76_14 (f : Nat) (h : hp_T) : Option ev_O := (B_76_15 f  (0 : Int32) h)
theorem sB_76_14 (f : Nat) (w0 : Value) (h : hp_T) (o : ev_O) (hB : B_76_14 f  h = some o) : rg 76 14 [w0] [] h o := by
  unfold B_76_14 at hB
  refine rg_ic (v := (0 : Int32)) rfl (by decide) ?_
  exact sB_76_15 f  _ _ h _ hB
def F_76 (f : Nat) (a0 : Int32) (h : hp_T) : Option ev_O := (db (ev_c .lt a0 0) (B_76_14 f   h) (db (ev_c .ge a0 (8 : Int32)) (B_76_14 f   h) (B_76_15 f  (1 : Int32) h)))
theorem sF_76 {f : Nat} {a0 : Int32} {h : hp_T} {o : ev_O} (hB : F_76 f a0 h = some o) : rm 76 [.int a0] h o := by
  unfold F_76 at hB
  refine rm_in (L := [.int a0]) (Nat.le_of_ble_eq_true rfl) rfl ?_
  refine rg_p rfl rfl ?_
  rcases db_e hB with ⟨q1, hB⟩ | ⟨q1, hB⟩
  · refine rg_bt (t := 14) (pc' := 4) rfl rfl q1 ?_
    exact sB_76_14 f  _ h _ hB
  · refine rg_bf (t := 14) (pc' := 4) rfl rfl q1 ?_
    refine rg_p rfl rfl ?_
    refine rg_bi (v := (8 : Int32)) rfl (by decide) ?_
    rcases db_e hB with ⟨q2, hB⟩ | ⟨q2, hB⟩
    · refine rg_bt (t := 14) (pc' := 10) rfl rfl q2 ?_
      exact sB_76_14 f  _ h _ hB
    · refine rg_bf (t := 14) (pc' := 10) rfl rfl q2 ?_
      refine rg_ic (v := (1 : Int32)) rfl (by decide) ?_
      refine rg_p (pc' := 15) rfl rfl ?_
      exact sB_76_15 f  _ _ h _ hB
-- 77: RouteHouseModel.port(III)V
def B_77_46 (f : Nat) (h : hp_T) : Option ev_O := (some (.inl none, h))
theorem sB_77_46 (f : Nat) (w0 : Value) (w1 : Value) (w2 : Value) (w3 : Value) (h : hp_T) (o : ev_O) (hB : B_77_46 f  h = some o) : rg 77 46 [w0, w1, w2, w3] [] h o := by
  unfold B_77_46 at hB
  cases hB
  exact rg_rv rfl rfl
def B_77_39 (f : Nat) (l0 : Nat) (l1 : Int32) (l2 : Int32) (l3 : Int32) (s0 : Int32) (s1 : Nat) (h : hp_T) : Option ev_O := (dg (decide (hp_k h s1 = some (8, 0))) (di (F_75 f s1 s0 (2 : Int32) h) fun v5 h2 => (db (ev_c .eq v5 0) (dg (decide (hp_k h2 l0 = some (8, 0))) (dp (hp_p h2 l0 0) fun r8 => (dg (aib 64 h2 r8 l1) (dl (wz h2 r8 (Int32.toNatClampNeg l1) l2) fun h11 => (dg (decide (hp_k h11 l0 = some (8, 0))) (dp (hp_p h11 l0 1) fun r14 => (dg (aib 64 h11 r14 l1) (dl (wz h11 r14 (Int32.toNatClampNeg l1) l3) fun h17 => (some (.inl none, h17)))))))))) (B_77_46 f   h2))))
theorem sB_77_39 (f : Nat) (l0 : Nat) (l1 : Int32) (l2 : Int32) (l3 : Int32) (s0 : Int32) (s1 : Nat) (h : hp_T) (o : ev_O) (hB : B_77_39 f l0 l1 l2 l3 s0 s1 h = some o) : rg 77 39 [.ref l0, .int l1, .int l2, .int l3] [.int s0, .ref s1] h o := by
  unfold B_77_39 at hB
  refine rg_ic (v := (2 : Int32)) rfl (by decide) ?_
  obtain ⟨c1, hB⟩ := dg_e hB
  rcases di_e hB with ⟨v5, h2, z3, hB⟩ | ⟨q4, h2, z3, hB⟩
  · refine rg_call (rg_v9 (n := 2) (b := s1) (as := [.ref s1, .int s0, .int (2 : Int32)]) (ar := []) rfl rfl rfl (Nat.le_of_ble_eq_true rfl) rfl rfl (Nat.le_of_ble_eq_true rfl) (of_decide_eq_true c1)) (sF_75 z3) ?_
    rcases db_e hB with ⟨q6, hB⟩ | ⟨q6, hB⟩
    · refine rg_bt (t := 47) (pc' := 46) rfl rfl q6 ?_
      refine rg_p rfl rfl ?_
      obtain ⟨c7, hB⟩ := dg_e hB
      obtain ⟨r8, p9, hB⟩ := dp_e hB
      refine rg_gp rfl rfl rfl (of_decide_eq_true c7) p9 ?_
      refine rg_p rfl rfl ?_
      refine rg_p rfl rfl ?_
      obtain ⟨c10, hB⟩ := dg_e hB
      obtain ⟨h11, e12, hB⟩ := dl_e hB
      refine rg_is rfl (ai_of c10) e12 ?_
      show rg 77 54 _ _ _ _
      refine rg_p rfl rfl ?_
      obtain ⟨c13, hB⟩ := dg_e hB
      obtain ⟨r14, p15, hB⟩ := dp_e hB
      refine rg_gp rfl rfl rfl (of_decide_eq_true c13) p15 ?_
      refine rg_p rfl rfl ?_
      refine rg_p rfl rfl ?_
      obtain ⟨c16, hB⟩ := dg_e hB
      obtain ⟨h17, e18, hB⟩ := dl_e hB
      refine rg_is rfl (ai_of c16) e18 ?_
      cases hB
      exact rg_rv rfl rfl
    · refine rg_bf (t := 47) (pc' := 46) rfl rfl q6 ?_
      exact sB_77_46 f  _ _ _ _ h2 _ hB
  · subst hB
    exact rg_callX (rg_v9 (n := 2) (b := s1) (as := [.ref s1, .int s0, .int (2 : Int32)]) (ar := []) rfl rfl rfl (Nat.le_of_ble_eq_true rfl) rfl rfl (Nat.le_of_ble_eq_true rfl) (of_decide_eq_true c1)) (sF_75 z3)
def B_77_34 (f : Nat) (l0 : Nat) (l1 : Int32) (l2 : Int32) (l3 : Int32) (s0 : Nat) (h : hp_T) : Option ev_O := (B_77_39 f  l0 l1 l2 l3 (1 : Int32) s0 h)
theorem sB_77_34 (f : Nat) (l0 : Nat) (l1 : Int32) (l2 : Int32) (l3 : Int32) (s0 : Nat) (h : hp_T) (o : ev_O) (hB : B_77_34 f l0 l1 l2 l3 s0 h = some o) : rg 77 34 [.ref l0, .int l1, .int l2, .int l3] [.ref s0] h o := by
  unfold B_77_34 at hB
  refine rg_ic (v := (1 : Int32)) rfl (by decide) ?_
  refine rg_p (pc' := 39) rfl rfl ?_
  exact sB_77_39 f  _ _ _ _ _ _ h _ hB
def B_77_13 (f : Nat) (l0 : Nat) (l1 : Int32) (l2 : Int32) (l3 : Int32) (s0 : Int32) (s1 : Nat) (h : hp_T) : Option ev_O := (dg (decide (hp_k h s1 = some (8, 0))) (di (F_75 f s1 s0 (1 : Int32) h) fun v5 h2 => (db (ev_c .ne v5 0) (B_77_46 f   h2) (db (ev_c .lt l3 (100 : Int32)) (B_77_34 f  l0 l1 l2 l3 l0 h2) (db (ev_c .le l3 (1500 : Int32)) (B_77_39 f  l0 l1 l2 l3 (0 : Int32) l0 h2) (B_77_34 f  l0 l1 l2 l3 l0 h2))))))
theorem sB_77_13 (f : Nat) (l0 : Nat) (l1 : Int32) (l2 : Int32) (l3 : Int32) (s0 : Int32) (s1 : Nat) (h : hp_T) (o : ev_O) (hB : B_77_13 f l0 l1 l2 l3 s0 s1 h = some o) : rg 77 13 [.ref l0, .int l1, .int l2, .int l3] [.int s0, .ref s1] h o := by
  unfold B_77_13 at hB
  refine rg_ic (v := (1 : Int32)) rfl (by decide) ?_
  obtain ⟨c1, hB⟩ := dg_e hB
  rcases di_e hB with ⟨v5, h2, z3, hB⟩ | ⟨q4, h2, z3, hB⟩
  · refine rg_call (rg_v9 (n := 2) (b := s1) (as := [.ref s1, .int s0, .int (1 : Int32)]) (ar := []) rfl rfl rfl (Nat.le_of_ble_eq_true rfl) rfl rfl (Nat.le_of_ble_eq_true rfl) (of_decide_eq_true c1)) (sF_75 z3) ?_
    rcases db_e hB with ⟨q6, hB⟩ | ⟨q6, hB⟩
    · refine rg_bt (t := 46) (pc' := 20) rfl rfl q6 ?_
      exact sB_77_46 f  _ _ _ _ h2 _ hB
    · refine rg_bf (t := 46) (pc' := 20) rfl rfl q6 ?_
      refine rg_p rfl rfl ?_
      refine rg_p rfl rfl ?_
      refine rg_bi (v := (100 : Int32)) rfl (by decide) ?_
      rcases db_e hB with ⟨q7, hB⟩ | ⟨q7, hB⟩
      · refine rg_bt (t := 34) (pc' := 27) rfl rfl q7 ?_
        exact sB_77_34 f  _ _ _ _ _ h2 _ hB
      · refine rg_bf (t := 34) (pc' := 27) rfl rfl q7 ?_
        refine rg_p rfl rfl ?_
        refine rg_si (v := (1500 : Int32)) rfl (by decide) ?_
        rcases db_e hB with ⟨q8, hB⟩ | ⟨q8, hB⟩
        · refine rg_bt (t := 38) (pc' := 34) rfl rfl q8 ?_
          refine rg_ic (v := (0 : Int32)) rfl (by decide) ?_
          exact sB_77_39 f  _ _ _ _ _ _ h2 _ hB
        · refine rg_bf (t := 38) (pc' := 34) rfl rfl q8 ?_
          exact sB_77_34 f  _ _ _ _ _ h2 _ hB
  · subst hB
    exact rg_callX (rg_v9 (n := 2) (b := s1) (as := [.ref s1, .int s0, .int (1 : Int32)]) (ar := []) rfl rfl rfl (Nat.le_of_ble_eq_true rfl) rfl rfl (Nat.le_of_ble_eq_true rfl) (of_decide_eq_true c1)) (sF_75 z3)
def F_77 (f : Nat) (a0 : Nat) (a1 : Int32) (a2 : Int32) (a3 : Int32) (h : hp_T) : Option ev_O := (di (F_76 f a1 h) fun v4 h1 => (db (ev_c .ne v4 0) (B_77_13 f  a0 a1 a2 a3 (0 : Int32) a0 h1) (B_77_13 f  a0 a1 a2 a3 (1 : Int32) a0 h1)))
theorem sF_77 {f : Nat} {a0 : Nat} {a1 : Int32} {a2 : Int32} {a3 : Int32} {h : hp_T} {o : ev_O} (hB : F_77 f a0 a1 a2 a3 h = some o) : rm 77 [.ref a0, .int a1, .int a2, .int a3] h o := by
  unfold F_77 at hB
  refine rm_in (L := [.ref a0, .int a1, .int a2, .int a3]) (Nat.le_of_ble_eq_true rfl) rfl ?_
  refine rg_p rfl rfl ?_
  refine rg_p rfl rfl ?_
  rcases di_e hB with ⟨v4, h1, z2, hB⟩ | ⟨q3, h1, z2, hB⟩
  · refine rg_call (rg_s9 (n := 1) (as := [.int a1]) (ar := []) rfl (rg_s0 rfl) rfl rfl (Nat.le_of_ble_eq_true rfl) rfl rfl (Nat.le_of_ble_eq_true rfl)) (sF_76 z2) ?_
    rcases db_e hB with ⟨q5, hB⟩ | ⟨q5, hB⟩
    · refine rg_bt (t := 12) (pc' := 8) rfl rfl q5 ?_
      refine rg_ic (v := (0 : Int32)) rfl (by decide) ?_
      exact sB_77_13 f  _ _ _ _ _ _ h1 _ hB
    · refine rg_bf (t := 12) (pc' := 8) rfl rfl q5 ?_
      refine rg_ic (v := (1 : Int32)) rfl (by decide) ?_
      refine rg_p (pc' := 13) rfl rfl ?_
      exact sB_77_13 f  _ _ _ _ _ _ h1 _ hB
  · subst hB
    exact rg_callX (rg_s9 (n := 1) (as := [.int a1]) (ar := []) rfl (rg_s0 rfl) rfl rfl (Nat.le_of_ble_eq_true rfl) rfl rfl (Nat.le_of_ble_eq_true rfl)) (sF_76 z2)
-- 78: RouteHouseModel.up(IZ)Z
def B_78_51 (f : Nat) (l3 : Int32) (s0 : Int32) (s1 : Int32) (s2 : Nat) (h : hp_T) : Option ev_O := (dg (aib 66 h s2 s1) (dl (wz h s2 (Int32.toNatClampNeg s1) (vp_nar .boolean s0)) fun h2 => (dg (dzb l3) (some (.inl (some (.int l3)), h2)))))
theorem sB_78_51 (f : Nat) (l3 : Int32) (s0 : Int32) (s1 : Int32) (s2 : Nat) (w0 : Value) (w1 : Value) (w2 : Value) (h : hp_T) (o : ev_O) (hB : B_78_51 f l3 s0 s1 s2 h = some o) : rg 78 51 [w0, w1, w2, .int l3] [.int s0, .int s1, .ref s2] h o := by
  unfold B_78_51 at hB
  obtain ⟨c1, hB⟩ := dg_e hB
  obtain ⟨h2, e3, hB⟩ := dl_e hB
  refine rg_bs (t := 66) (ty := .boolean) (by decide) rfl rfl (ai_of c1) e3 ?_
  refine rg_p rfl rfl ?_
  obtain ⟨c4, hB⟩ := dg_e hB
  cases hB
  exact rg_ri rfl rfl (dz_n (dz_of c4))
def B_78_36 (f : Nat) (l0 : Nat) (l1 : Int32) (l2 : Int32) (s0 : Int32) (h : hp_T) : Option ev_O := (dg (decide (hp_k h l0 = some (8, 0))) (dp (hp_p h l0 2) fun r2 => (db (ev_c .ne l2 0) (B_78_51 f  s0 (0 : Int32) l1 r2 h) (B_78_51 f  s0 (1 : Int32) l1 r2 h))))
theorem sB_78_36 (f : Nat) (l0 : Nat) (l1 : Int32) (l2 : Int32) (s0 : Int32) (w3 : Value) (h : hp_T) (o : ev_O) (hB : B_78_36 f l0 l1 l2 s0 h = some o) : rg 78 36 [.ref l0, .int l1, .int l2, w3] [.int s0] h o := by
  unfold B_78_36 at hB
  refine rg_p (L' := [.ref l0, .int l1, .int l2, .int s0]) rfl rfl ?_
  refine rg_p rfl rfl ?_
  obtain ⟨c1, hB⟩ := dg_e hB
  obtain ⟨r2, p3, hB⟩ := dp_e hB
  refine rg_gp rfl rfl rfl (of_decide_eq_true c1) p3 ?_
  refine rg_p rfl rfl ?_
  refine rg_p rfl rfl ?_
  show rg 78 43 _ _ _ _
  rcases db_e hB with ⟨q4, hB⟩ | ⟨q4, hB⟩
  · refine rg_bt (t := 50) (pc' := 46) rfl rfl q4 ?_
    refine rg_ic (v := (0 : Int32)) rfl (by decide) ?_
    exact sB_78_51 f  _ _ _ _ _ _ _ h _ hB
  · refine rg_bf (t := 50) (pc' := 46) rfl rfl q4 ?_
    refine rg_ic (v := (1 : Int32)) rfl (by decide) ?_
    refine rg_p (pc' := 51) rfl rfl ?_
    exact sB_78_51 f  _ _ _ _ _ _ _ h _ hB
def B_78_13 (f : Nat) (l0 : Nat) (l1 : Int32) (l2 : Int32) (s0 : Int32) (s1 : Nat) (h : hp_T) : Option ev_O := (dg (decide (hp_k h s1 = some (8, 0))) (di (F_75 f s1 s0 (1 : Int32) h) fun v5 h2 => (db (ev_c .eq v5 0) (dg (decide (hp_k h2 l0 = some (8, 0))) (dp (hp_p h2 l0 2) fun r8 => (dg (aib 66 h2 r8 l1) (db (ev_c .ne (hp_z h2 r8 (Int32.toNatClampNeg l1)) 0) (B_78_36 f  l0 l1 l2 (0 : Int32) h2) (B_78_36 f  l0 l1 l2 (1 : Int32) h2))))) (some (.inl (some (.int (0 : Int32))), h2)))))
theorem sB_78_13 (f : Nat) (l0 : Nat) (l1 : Int32) (l2 : Int32) (s0 : Int32) (s1 : Nat) (w3 : Value) (h : hp_T) (o : ev_O) (hB : B_78_13 f l0 l1 l2 s0 s1 h = some o) : rg 78 13 [.ref l0, .int l1, .int l2, w3] [.int s0, .ref s1] h o := by
  unfold B_78_13 at hB
  refine rg_ic (v := (1 : Int32)) rfl (by decide) ?_
  obtain ⟨c1, hB⟩ := dg_e hB
  rcases di_e hB with ⟨v5, h2, z3, hB⟩ | ⟨q4, h2, z3, hB⟩
  · refine rg_call (rg_v9 (n := 2) (b := s1) (as := [.ref s1, .int s0, .int (1 : Int32)]) (ar := []) rfl rfl rfl (Nat.le_of_ble_eq_true rfl) rfl rfl (Nat.le_of_ble_eq_true rfl) (of_decide_eq_true c1)) (sF_75 z3) ?_
    rcases db_e hB with ⟨q6, hB⟩ | ⟨q6, hB⟩
    · refine rg_bt (t := 22) (pc' := 20) rfl rfl q6 ?_
      refine rg_p rfl rfl ?_
      obtain ⟨c7, hB⟩ := dg_e hB
      obtain ⟨r8, p9, hB⟩ := dp_e hB
      refine rg_gp rfl rfl rfl (of_decide_eq_true c7) p9 ?_
      refine rg_p rfl rfl ?_
      obtain ⟨c10, hB⟩ := dg_e hB
      refine rg_ba (t := 66) (by decide) rfl (ai_of c10) ?_
      rcases db_e hB with ⟨q11, hB⟩ | ⟨q11, hB⟩
      · refine rg_bt (t := 35) (pc' := 31) rfl rfl q11 ?_
        refine rg_ic (v := (0 : Int32)) rfl (by decide) ?_
        exact sB_78_36 f  _ _ _ _ _ h2 _ hB
      · refine rg_bf (t := 35) (pc' := 31) rfl rfl q11 ?_
        refine rg_ic (v := (1 : Int32)) rfl (by decide) ?_
        refine rg_p (pc' := 36) rfl rfl ?_
        exact sB_78_36 f  _ _ _ _ _ h2 _ hB
    · refine rg_bf (t := 22) (pc' := 20) rfl rfl q6 ?_
      refine rg_ic (v := (0 : Int32)) rfl (by decide) ?_
      cases hB
      exact rg_ri rfl rfl (dz_n dz_0)
  · subst hB
    exact rg_callX (rg_v9 (n := 2) (b := s1) (as := [.ref s1, .int s0, .int (1 : Int32)]) (ar := []) rfl rfl rfl (Nat.le_of_ble_eq_true rfl) rfl rfl (Nat.le_of_ble_eq_true rfl) (of_decide_eq_true c1)) (sF_75 z3)
def F_78 (f : Nat) (a0 : Nat) (a1 : Int32) (a2 : Int32) (h : hp_T) : Option ev_O := (di (F_76 f a1 h) fun v4 h1 => (db (ev_c .ne v4 0) (B_78_13 f  a0 a1 a2 (0 : Int32) a0 h1) (B_78_13 f  a0 a1 a2 (1 : Int32) a0 h1)))
theorem sF_78 {f : Nat} {a0 : Nat} {a1 : Int32} {a2 : Int32} {h : hp_T} {o : ev_O} (hB : F_78 f a0 a1 a2 h = some o) : rm 78 [.ref a0, .int a1, .int a2] h o := by
  unfold F_78 at hB
  refine rm_in (L := [.ref a0, .int a1, .int a2, .null]) (Nat.le_of_ble_eq_true rfl) rfl ?_
  refine rg_p rfl rfl ?_
  refine rg_p rfl rfl ?_
  rcases di_e hB with ⟨v4, h1, z2, hB⟩ | ⟨q3, h1, z2, hB⟩
  · refine rg_call (rg_s9 (n := 1) (as := [.int a1]) (ar := []) rfl (rg_s0 rfl) rfl rfl (Nat.le_of_ble_eq_true rfl) rfl rfl (Nat.le_of_ble_eq_true rfl)) (sF_76 z2) ?_
    rcases db_e hB with ⟨q5, hB⟩ | ⟨q5, hB⟩
    · refine rg_bt (t := 12) (pc' := 8) rfl rfl q5 ?_
      refine rg_ic (v := (0 : Int32)) rfl (by decide) ?_
      exact sB_78_13 f  _ _ _ _ _ _ h1 _ hB
    · refine rg_bf (t := 12) (pc' := 8) rfl rfl q5 ?_
      refine rg_ic (v := (1 : Int32)) rfl (by decide) ?_
      refine rg_p (pc' := 13) rfl rfl ?_
      exact sB_78_13 f  _ _ _ _ _ _ h1 _ hB
  · subst hB
    exact rg_callX (rg_s9 (n := 1) (as := [.int a1]) (ar := []) rfl (rg_s0 rfl) rfl rfl (Nat.le_of_ble_eq_true rfl) rfl rfl (Nat.le_of_ble_eq_true rfl)) (sF_76 z2)
-- 79: RouteHouseModel.start(II)I
def B_79_19 (f : Nat) (s0 : Int32) (h : hp_T) : Option ev_O := (some (.inl (some (.int s0)), h))
theorem sB_79_19 (f : Nat) (s0 : Int32) (w0 : Value) (w1 : Value) (h : hp_T) (o : ev_O) (hB : B_79_19 f s0 h = some o) : rg 79 19 [w0, w1] [.int s0] h o := by
  unfold B_79_19 at hB
  cases hB
  exact rg_ri rfl rfl rfl
def F_79 (f : Nat) (a0 : Int32) (a1 : Int32) (h : hp_T) : Option ev_O := (db (ev_c .ne a1 0) (B_79_19 f  ((a0 >>> (((32 : Int32) - a1) &&& 31)) <<< (((32 : Int32) - a1) &&& 31)) h) (B_79_19 f  (0 : Int32) h))
theorem sF_79 {f : Nat} {a0 : Int32} {a1 : Int32} {h : hp_T} {o : ev_O} (hB : F_79 f a0 a1 h = some o) : rm 79 [.int a0, .int a1] h o := by
  unfold F_79 at hB
  refine rm_in (L := [.int a0, .int a1]) (Nat.le_of_ble_eq_true rfl) rfl ?_
  refine rg_p rfl rfl ?_
  rcases db_e hB with ⟨q1, hB⟩ | ⟨q1, hB⟩
  · refine rg_bt (t := 8) (pc' := 4) rfl rfl q1 ?_
    refine rg_p rfl rfl ?_
    refine rg_bi (v := (32 : Int32)) rfl (by decide) ?_
    refine rg_p rfl rfl ?_
    refine rg_p rfl rfl ?_
    refine rg_p rfl rfl ?_
    show rg 79 14 _ _ _ _
    refine rg_bi (v := (32 : Int32)) rfl (by decide) ?_
    refine rg_p rfl rfl ?_
    refine rg_p rfl rfl ?_
    refine rg_p rfl rfl ?_
    exact sB_79_19 f  _ _ _ h _ hB
  · refine rg_bf (t := 8) (pc' := 4) rfl rfl q1 ?_
    refine rg_ic (v := (0 : Int32)) rfl (by decide) ?_
    refine rg_p (pc' := 19) rfl rfl ?_
    exact sB_79_19 f  _ _ _ h _ hB
-- 80: RouteHouseModel.routeFor(II)I
def B_80_36 (f : Nat) (C2 : Nat → Int32 → Int32 → Int32 → hp_T → Option ev_O) (l0 : Nat) (l1 : Int32) (l2 : Int32) (l3 : Int32) (h : hp_T) : Option ev_O := (C2 l0 l1 l2 (l3 + (1 : Int32)) h)
theorem sB_80_36 (f : Nat) (C2 : Nat → Int32 → Int32 → Int32 → hp_T → Option ev_O) (hC2 : ∀ (l0 : Nat) (l1 : Int32) (l2 : Int32) (l3 : Int32) (h : hp_T) (o : ev_O), C2 l0 l1 l2 l3 h = some o → rg 80 2 [.ref l0, .int l1, .int l2, .int l3] [] h o) (l0 : Nat) (l1 : Int32) (l2 : Int32) (l3 : Int32) (h : hp_T) (o : ev_O) (hB : B_80_36 f C2 l0 l1 l2 l3 h = some o) : rg 80 36 [.ref l0, .int l1, .int l2, .int l3] [] h o := by
  unfold B_80_36 at hB
  refine rg_p (L' := [.ref l0, .int l1, .int l2, .int (l3 + (1 : Int32))]) rfl rfl ?_
  refine rg_p (pc' := 2) rfl rfl ?_
  exact hC2 _ _ _ _ h _ hB
def B_80_2 (f : Nat) : Nat → Nat → Int32 → Int32 → Int32 → hp_T → Option ev_O
  | 0, _, _, _, _, _ => none
  | g + 1, l0, l1, l2, l3, h => (dg (decide (hp_k h l0 = some (8, 0))) (db (ev_c .ge l3 (hp_z h l0 7)) (some (.inl (some (.int (-1 : Int32))), h)) (dp (hp_p h l0 4) fun r3 => (dg (aib 64 h r3 l3) (db (ev_c .ne (hp_z h r3 (Int32.toNatClampNeg l3)) l2) (B_80_36 f (B_80_2 f g) l0 l1 l2 l3 h) (dp (hp_p h l0 3) fun r7 => (dg (aib 64 h r7 l3) (di (F_79 f l1 l2 h) fun v13 h10 => (db (ev_c .ne (hp_z h r7 (Int32.toNatClampNeg l3)) v13) (B_80_36 f (B_80_2 f g) l0 l1 l2 l3 h10) (some (.inl (some (.int l3)), h10)))))))))))
theorem sB_80_2 (f : Nat) : ∀ (g : Nat) (l0 : Nat) (l1 : Int32) (l2 : Int32) (l3 : Int32) (h : hp_T) (o : ev_O), B_80_2 f g l0 l1 l2 l3 h = some o → rg 80 2 [.ref l0, .int l1, .int l2, .int l3] [] h o := by
  intro g
  induction g with
  | zero =>
    intro l0 l1 l2 l3  h o hB
    rw [B_80_2] at hB
    cases hB
  | succ g ih =>
    intro l0 l1 l2 l3  h o hB
    rw [B_80_2] at hB
    refine rg_p rfl rfl ?_
    refine rg_p rfl rfl ?_
    obtain ⟨c1, hB⟩ := dg_e hB
    refine rg_gz rfl rfl rfl (of_decide_eq_true c1) ?_
    rcases db_e hB with ⟨q2, hB⟩ | ⟨q2, hB⟩
    · refine rg_bt (t := 42) (pc' := 10) rfl rfl q2 ?_
      refine rg_ic (v := (-1 : Int32)) rfl (by decide) ?_
      cases hB
      exact rg_ri rfl rfl rfl
    · refine rg_bf (t := 42) (pc' := 10) rfl rfl q2 ?_
      refine rg_p rfl rfl ?_
      obtain ⟨r3, p4, hB⟩ := dp_e hB
      refine rg_gp rfl rfl rfl (of_decide_eq_true c1) p4 ?_
      refine rg_p rfl rfl ?_
      obtain ⟨c5, hB⟩ := dg_e hB
      refine rg_ia rfl (ai_of c5) ?_
      refine rg_p rfl rfl ?_
      show rg 80 17 _ _ _ _
      rcases db_e hB with ⟨q6, hB⟩ | ⟨q6, hB⟩
      · refine rg_bt (t := 36) (pc' := 20) rfl rfl q6 ?_
        exact sB_80_36 f (B_80_2 f g) ih _ _ _ _ h _ hB
      · refine rg_bf (t := 36) (pc' := 20) rfl rfl q6 ?_
        refine rg_p rfl rfl ?_
        obtain ⟨r7, p8, hB⟩ := dp_e hB
        refine rg_gp rfl rfl rfl (of_decide_eq_true c1) p8 ?_
        refine rg_p rfl rfl ?_
        obtain ⟨c9, hB⟩ := dg_e hB
        refine rg_ia rfl (ai_of c9) ?_
        refine rg_p rfl rfl ?_
        show rg 80 27 _ _ _ _
        refine rg_p rfl rfl ?_
        rcases di_e hB with ⟨v13, h10, z11, hB⟩ | ⟨q12, h10, z11, hB⟩
        · refine rg_call (rg_s9 (n := 2) (as := [.int l1, .int l2]) (ar := []) rfl (rg_s0 rfl) rfl rfl (Nat.le_of_ble_eq_true rfl) rfl rfl (Nat.le_of_ble_eq_true rfl)) (sF_79 z11) ?_
          rcases db_e hB with ⟨q14, hB⟩ | ⟨q14, hB⟩
          · refine rg_bt (t := 36) (pc' := 34) rfl rfl q14 ?_
            exact sB_80_36 f (B_80_2 f g) ih _ _ _ _ h10 _ hB
          · refine rg_bf (t := 36) (pc' := 34) rfl rfl q14 ?_
            refine rg_p rfl rfl ?_
            cases hB
            exact rg_ri rfl rfl rfl
        · subst hB
          exact rg_callX (rg_s9 (n := 2) (as := [.int l1, .int l2]) (ar := []) rfl (rg_s0 rfl) rfl rfl (Nat.le_of_ble_eq_true rfl) rfl rfl (Nat.le_of_ble_eq_true rfl)) (sF_79 z11)
def F_80 (f : Nat) (a0 : Nat) (a1 : Int32) (a2 : Int32) (h : hp_T) : Option ev_O := (B_80_2 f  f a0 a1 a2 (0 : Int32) h)
theorem sF_80 {f : Nat} {a0 : Nat} {a1 : Int32} {a2 : Int32} {h : hp_T} {o : ev_O} (hB : F_80 f a0 a1 a2 h = some o) : rm 80 [.ref a0, .int a1, .int a2] h o := by
  unfold F_80 at hB
  refine rm_in (L := [.ref a0, .int a1, .int a2, .null]) (Nat.le_of_ble_eq_true rfl) rfl ?_
  refine rg_ic (v := (0 : Int32)) rfl (by decide) ?_
  refine rg_p (L' := [.ref a0, .int a1, .int a2, .int (0 : Int32)]) rfl rfl ?_
  exact sB_80_2 f  f _ _ _ _ h _ hB
-- 81: RouteHouseModel.route(IIII)I
def B_81_106 (f : Nat) (l0 : Nat) (l1 : Int32) (l2 : Int32) (l3 : Int32) (l4 : Int32) (l5 : Int32) (h : hp_T) : Option ev_O := (dg (decide (hp_k h l0 = some (8, 0))) (dp (hp_p h l0 3) fun r2 => (di (F_79 f l1 l2 h) fun v7 h4 => (dg (aib 64 h4 r2 l5) (dl (wz h4 r2 (Int32.toNatClampNeg l5) v7) fun h9 => (dg (decide (hp_k h9 l0 = some (8, 0))) (dp (hp_p h9 l0 4) fun r12 => (dg (aib 64 h9 r12 l5) (dl (wz h9 r12 (Int32.toNatClampNeg l5) l2) fun h15 => (dg (decide (hp_k h15 l0 = some (8, 0))) (dp (hp_p h15 l0 5) fun r18 => (dg (aib 64 h15 r18 l5) (dl (wz h15 r18 (Int32.toNatClampNeg l5) l3) fun h21 => (dg (decide (hp_k h21 l0 = some (8, 0))) (dp (hp_p h21 l0 6) fun r24 => (dg (aib 64 h21 r24 l5) (dl (wz h21 r24 (Int32.toNatClampNeg l5) l4) fun h27 => (dg (decide (hp_k h27 l0 = some (8, 0))) (some (.inl (some (.int (hp_z h27 l0 7))), h27))))))))))))))))))))
theorem sB_81_106 (f : Nat) (l0 : Nat) (l1 : Int32) (l2 : Int32) (l3 : Int32) (l4 : Int32) (l5 : Int32) (h : hp_T) (o : ev_O) (hB : B_81_106 f l0 l1 l2 l3 l4 l5 h = some o) : rg 81 106 [.ref l0, .int l1, .int l2, .int l3, .int l4, .int l5] [] h o := by
  unfold B_81_106 at hB
  refine rg_p rfl rfl ?_
  obtain ⟨c1, hB⟩ := dg_e hB
  obtain ⟨r2, p3, hB⟩ := dp_e hB
  refine rg_gp rfl rfl rfl (of_decide_eq_true c1) p3 ?_
  refine rg_p rfl rfl ?_
  refine rg_p rfl rfl ?_
  refine rg_p rfl rfl ?_
  show rg 81 114 _ _ _ _
  rcases di_e hB with ⟨v7, h4, z5, hB⟩ | ⟨q6, h4, z5, hB⟩
  · refine rg_call (rg_s9 (n := 2) (as := [.int l1, .int l2]) (ar := []) rfl (rg_s0 rfl) rfl rfl (Nat.le_of_ble_eq_true rfl) rfl rfl (Nat.le_of_ble_eq_true rfl)) (sF_79 z5) ?_
    obtain ⟨c8, hB⟩ := dg_e hB
    obtain ⟨h9, e10, hB⟩ := dl_e hB
    refine rg_is rfl (ai_of c8) e10 ?_
    refine rg_p rfl rfl ?_
    obtain ⟨c11, hB⟩ := dg_e hB
    obtain ⟨r12, p13, hB⟩ := dp_e hB
    refine rg_gp rfl rfl rfl (of_decide_eq_true c11) p13 ?_
    refine rg_p rfl rfl ?_
    refine rg_p rfl rfl ?_
    show rg 81 125 _ _ _ _
    obtain ⟨c14, hB⟩ := dg_e hB
    obtain ⟨h15, e16, hB⟩ := dl_e hB
    refine rg_is rfl (ai_of c14) e16 ?_
    refine rg_p rfl rfl ?_
    obtain ⟨c17, hB⟩ := dg_e hB
    obtain ⟨r18, p19, hB⟩ := dp_e hB
    refine rg_gp rfl rfl rfl (of_decide_eq_true c17) p19 ?_
    refine rg_p rfl rfl ?_
    refine rg_p rfl rfl ?_
    obtain ⟨c20, hB⟩ := dg_e hB
    obtain ⟨h21, e22, hB⟩ := dl_e hB
    refine rg_is rfl (ai_of c20) e22 ?_
    show rg 81 134 _ _ _ _
    refine rg_p rfl rfl ?_
    obtain ⟨c23, hB⟩ := dg_e hB
    obtain ⟨r24, p25, hB⟩ := dp_e hB
    refine rg_gp rfl rfl rfl (of_decide_eq_true c23) p25 ?_
    refine rg_p rfl rfl ?_
    refine rg_p rfl rfl ?_
    obtain ⟨c26, hB⟩ := dg_e hB
    obtain ⟨h27, e28, hB⟩ := dl_e hB
    refine rg_is rfl (ai_of c26) e28 ?_
    refine rg_p rfl rfl ?_
    show rg 81 144 _ _ _ _
    obtain ⟨c29, hB⟩ := dg_e hB
    refine rg_gz rfl rfl rfl (of_decide_eq_true c29) ?_
    cases hB
    exact rg_ri rfl rfl rfl
  · subst hB
    exact rg_callX (rg_s9 (n := 2) (as := [.int l1, .int l2]) (ar := []) rfl (rg_s0 rfl) rfl rfl (Nat.le_of_ble_eq_true rfl) rfl rfl (Nat.le_of_ble_eq_true rfl)) (sF_79 z5)
def B_81_75 (f : Nat) (l0 : Nat) (l1 : Int32) (l2 : Int32) (l3 : Int32) (l4 : Int32) (l5 : Int32) (s0 : Int32) (s1 : Nat) (h : hp_T) : Option ev_O := (dg (decide (hp_k h s1 = some (8, 0))) (di (F_75 f s1 s0 (3 : Int32) h) fun v5 h2 => (db (ev_c .eq v5 0) (db (ev_c .ne l5 (-1 : Int32)) (B_81_106 f  l0 l1 l2 l3 l4 l5 h2) (dg (decide (hp_k h2 l0 = some (8, 0))) (dl (wz h2 l0 7 ((hp_z h2 l0 7) + (1 : Int32))) fun h9 => (B_81_106 f  l0 l1 l2 l3 l4 (hp_z h2 l0 7) h9)))) (some (.inl (some (.int (0 : Int32))), h2)))))
theorem sB_81_75 (f : Nat) (l0 : Nat) (l1 : Int32) (l2 : Int32) (l3 : Int32) (l4 : Int32) (l5 : Int32) (s0 : Int32) (s1 : Nat) (h : hp_T) (o : ev_O) (hB : B_81_75 f l0 l1 l2 l3 l4 l5 s0 s1 h = some o) : rg 81 75 [.ref l0, .int l1, .int l2, .int l3, .int l4, .int l5] [.int s0, .ref s1] h o := by
  unfold B_81_75 at hB
  refine rg_ic (v := (3 : Int32)) rfl (by decide) ?_
  obtain ⟨c1, hB⟩ := dg_e hB
  rcases di_e hB with ⟨v5, h2, z3, hB⟩ | ⟨q4, h2, z3, hB⟩
  · refine rg_call (rg_v9 (n := 2) (b := s1) (as := [.ref s1, .int s0, .int (3 : Int32)]) (ar := []) rfl rfl rfl (Nat.le_of_ble_eq_true rfl) rfl rfl (Nat.le_of_ble_eq_true rfl) (of_decide_eq_true c1)) (sF_75 z3) ?_
    rcases db_e hB with ⟨q6, hB⟩ | ⟨q6, hB⟩
    · refine rg_bt (t := 84) (pc' := 82) rfl rfl q6 ?_
      refine rg_p rfl rfl ?_
      refine rg_ic (v := (-1 : Int32)) rfl (by decide) ?_
      rcases db_e hB with ⟨q7, hB⟩ | ⟨q7, hB⟩
      · refine rg_bt (t := 106) (pc' := 90) rfl rfl q7 ?_
        exact sB_81_106 f  _ _ _ _ _ _ h2 _ hB
      · refine rg_bf (t := 106) (pc' := 90) rfl rfl q7 ?_
        refine rg_p rfl rfl ?_
        obtain ⟨c8, hB⟩ := dg_e hB
        refine rg_gz rfl rfl rfl (of_decide_eq_true c8) ?_
        refine rg_p (L' := [.ref l0, .int l1, .int l2, .int l3, .int l4, .int (hp_z h2 l0 7)]) rfl rfl ?_
        refine rg_p rfl rfl ?_
        refine rg_p rfl rfl ?_
        show rg 81 98 _ _ _ _
        refine rg_gz rfl rfl rfl (of_decide_eq_true c8) ?_
        refine rg_ic (v := (1 : Int32)) rfl (by decide) ?_
        refine rg_p rfl rfl ?_
        obtain ⟨h9, e10, hB⟩ := dl_e hB
        refine rg_pi rfl rfl rfl (of_decide_eq_true c8) e10 ?_
        exact sB_81_106 f  _ _ _ _ _ _ h9 _ hB
    · refine rg_bf (t := 84) (pc' := 82) rfl rfl q6 ?_
      refine rg_ic (v := (0 : Int32)) rfl (by decide) ?_
      cases hB
      exact rg_ri rfl rfl rfl
  · subst hB
    exact rg_callX (rg_v9 (n := 2) (b := s1) (as := [.ref s1, .int s0, .int (3 : Int32)]) (ar := []) rfl rfl rfl (Nat.le_of_ble_eq_true rfl) rfl rfl (Nat.le_of_ble_eq_true rfl) (of_decide_eq_true c1)) (sF_75 z3)
def B_81_74 (f : Nat) (l0 : Nat) (l1 : Int32) (l2 : Int32) (l3 : Int32) (l4 : Int32) (l5 : Int32) (s0 : Nat) (h : hp_T) : Option ev_O := (B_81_75 f  l0 l1 l2 l3 l4 l5 (0 : Int32) s0 h)
theorem sB_81_74 (f : Nat) (l0 : Nat) (l1 : Int32) (l2 : Int32) (l3 : Int32) (l4 : Int32) (l5 : Int32) (s0 : Nat) (h : hp_T) (o : ev_O) (hB : B_81_74 f l0 l1 l2 l3 l4 l5 s0 h = some o) : rg 81 74 [.ref l0, .int l1, .int l2, .int l3, .int l4, .int l5] [.ref s0] h o := by
  unfold B_81_74 at hB
  refine rg_ic (v := (0 : Int32)) rfl (by decide) ?_
  exact sB_81_75 f  _ _ _ _ _ _ _ _ h _ hB
def B_81_43 (f : Nat) (h : hp_T) : Option ev_O := (some (.inl (some (.int (0 : Int32))), h))
theorem sB_81_43 (f : Nat) (w0 : Value) (w1 : Value) (w2 : Value) (w3 : Value) (w4 : Value) (w5 : Value) (h : hp_T) (o : ev_O) (hB : B_81_43 f  h = some o) : rg 81 43 [w0, w1, w2, w3, w4, w5] [] h o := by
  unfold B_81_43 at hB
  refine rg_ic (v := (0 : Int32)) rfl (by decide) ?_
  cases hB
  exact rg_ri rfl rfl rfl
def B_81_36 (f : Nat) (l0 : Nat) (l1 : Int32) (l2 : Int32) (l3 : Int32) (l4 : Int32) (s0 : Int32) (s1 : Nat) (h : hp_T) : Option ev_O := (dg (decide (hp_k h s1 = some (8, 0))) (di (F_75 f s1 s0 (2 : Int32) h) fun v5 h2 => (db (ev_c .eq v5 0) (dg (decide (hp_k h2 l0 = some (8, 0))) (di (F_80 f l0 l1 l2 h2) fun v11 h8 => (db (ev_c .ne v11 (-1 : Int32)) (B_81_74 f  l0 l1 l2 l3 l4 v11 l0 h8) (dg (decide (hp_k h8 l0 = some (8, 0))) (db (ev_c .ne (hp_z h8 l0 7) (400 : Int32)) (B_81_74 f  l0 l1 l2 l3 l4 v11 l0 h8) (B_81_75 f  l0 l1 l2 l3 l4 v11 (1 : Int32) l0 h8)))))) (B_81_43 f   h2))))
theorem sB_81_36 (f : Nat) (l0 : Nat) (l1 : Int32) (l2 : Int32) (l3 : Int32) (l4 : Int32) (s0 : Int32) (s1 : Nat) (w5 : Value) (h : hp_T) (o : ev_O) (hB : B_81_36 f l0 l1 l2 l3 l4 s0 s1 h = some o) : rg 81 36 [.ref l0, .int l1, .int l2, .int l3, .int l4, w5] [.int s0, .ref s1] h o := by
  unfold B_81_36 at hB
  refine rg_ic (v := (2 : Int32)) rfl (by decide) ?_
  obtain ⟨c1, hB⟩ := dg_e hB
  rcases di_e hB with ⟨v5, h2, z3, hB⟩ | ⟨q4, h2, z3, hB⟩
  · refine rg_call (rg_v9 (n := 2) (b := s1) (as := [.ref s1, .int s0, .int (2 : Int32)]) (ar := []) rfl rfl rfl (Nat.le_of_ble_eq_true rfl) rfl rfl (Nat.le_of_ble_eq_true rfl) (of_decide_eq_true c1)) (sF_75 z3) ?_
    rcases db_e hB with ⟨q6, hB⟩ | ⟨q6, hB⟩
    · refine rg_bt (t := 45) (pc' := 43) rfl rfl q6 ?_
      refine rg_p rfl rfl ?_
      refine rg_p rfl rfl ?_
      refine rg_p rfl rfl ?_
      obtain ⟨c7, hB⟩ := dg_e hB
      rcases di_e hB with ⟨v11, h8, z9, hB⟩ | ⟨q10, h8, z9, hB⟩
      · refine rg_call (rg_v9 (n := 2) (b := l0) (as := [.ref l0, .int l1, .int l2]) (ar := []) rfl rfl rfl (Nat.le_of_ble_eq_true rfl) rfl rfl (Nat.le_of_ble_eq_true rfl) (of_decide_eq_true c7)) (sF_80 z9) ?_
        refine rg_p (L' := [.ref l0, .int l1, .int l2, .int l3, .int l4, .int v11]) rfl rfl ?_
        refine rg_p rfl rfl ?_
        refine rg_p rfl rfl ?_
        refine rg_ic (v := (-1 : Int32)) rfl (by decide) ?_
        rcases db_e hB with ⟨q12, hB⟩ | ⟨q12, hB⟩
        · refine rg_bt (t := 74) (pc' := 60) rfl rfl q12 ?_
          exact sB_81_74 f  _ _ _ _ _ _ _ h8 _ hB
        · refine rg_bf (t := 74) (pc' := 60) rfl rfl q12 ?_
          refine rg_p rfl rfl ?_
          obtain ⟨c13, hB⟩ := dg_e hB
          refine rg_gz rfl rfl rfl (of_decide_eq_true c13) ?_
          refine rg_si (v := (400 : Int32)) rfl (by decide) ?_
          rcases db_e hB with ⟨q14, hB⟩ | ⟨q14, hB⟩
          · refine rg_bt (t := 74) (pc' := 70) rfl rfl q14 ?_
            exact sB_81_74 f  _ _ _ _ _ _ _ h8 _ hB
          · refine rg_bf (t := 74) (pc' := 70) rfl rfl q14 ?_
            refine rg_ic (v := (1 : Int32)) rfl (by decide) ?_
            refine rg_p (pc' := 75) rfl rfl ?_
            exact sB_81_75 f  _ _ _ _ _ _ _ _ h8 _ hB
      · subst hB
        exact rg_callX (rg_v9 (n := 2) (b := l0) (as := [.ref l0, .int l1, .int l2]) (ar := []) rfl rfl rfl (Nat.le_of_ble_eq_true rfl) rfl rfl (Nat.le_of_ble_eq_true rfl) (of_decide_eq_true c7)) (sF_80 z9)
    · refine rg_bf (t := 45) (pc' := 43) rfl rfl q6 ?_
      exact sB_81_43 f  _ _ _ _ _ _ h2 _ hB
  · subst hB
    exact rg_callX (rg_v9 (n := 2) (b := s1) (as := [.ref s1, .int s0, .int (2 : Int32)]) (ar := []) rfl rfl rfl (Nat.le_of_ble_eq_true rfl) rfl rfl (Nat.le_of_ble_eq_true rfl) (of_decide_eq_true c1)) (sF_75 z3)
def B_81_16 (f : Nat) (l0 : Nat) (l1 : Int32) (l2 : Int32) (l3 : Int32) (l4 : Int32) (s0 : Int32) (s1 : Nat) (h : hp_T) : Option ev_O := (dg (decide (hp_k h s1 = some (8, 0))) (di (F_75 f s1 s0 (1 : Int32) h) fun v5 h2 => (db (ev_c .ne v5 0) (B_81_43 f   h2) (di (F_76 f l3 h2) fun v10 h7 => (db (ev_c .ne v10 0) (B_81_36 f  l0 l1 l2 l3 l4 (0 : Int32) l0 h7) (B_81_36 f  l0 l1 l2 l3 l4 (1 : Int32) l0 h7))))))
theorem sB_81_16 (f : Nat) (l0 : Nat) (l1 : Int32) (l2 : Int32) (l3 : Int32) (l4 : Int32) (s0 : Int32) (s1 : Nat) (w5 : Value) (h : hp_T) (o : ev_O) (hB : B_81_16 f l0 l1 l2 l3 l4 s0 s1 h = some o) : rg 81 16 [.ref l0, .int l1, .int l2, .int l3, .int l4, w5] [.int s0, .ref s1] h o := by
  unfold B_81_16 at hB
  refine rg_ic (v := (1 : Int32)) rfl (by decide) ?_
  obtain ⟨c1, hB⟩ := dg_e hB
  rcases di_e hB with ⟨v5, h2, z3, hB⟩ | ⟨q4, h2, z3, hB⟩
  · refine rg_call (rg_v9 (n := 2) (b := s1) (as := [.ref s1, .int s0, .int (1 : Int32)]) (ar := []) rfl rfl rfl (Nat.le_of_ble_eq_true rfl) rfl rfl (Nat.le_of_ble_eq_true rfl) (of_decide_eq_true c1)) (sF_75 z3) ?_
    rcases db_e hB with ⟨q6, hB⟩ | ⟨q6, hB⟩
    · refine rg_bt (t := 43) (pc' := 23) rfl rfl q6 ?_
      exact sB_81_43 f  _ _ _ _ _ _ h2 _ hB
    · refine rg_bf (t := 43) (pc' := 23) rfl rfl q6 ?_
      refine rg_p rfl rfl ?_
      refine rg_p rfl rfl ?_
      rcases di_e hB with ⟨v10, h7, z8, hB⟩ | ⟨q9, h7, z8, hB⟩
      · refine rg_call (rg_s9 (n := 1) (as := [.int l3]) (ar := []) rfl (rg_s0 rfl) rfl rfl (Nat.le_of_ble_eq_true rfl) rfl rfl (Nat.le_of_ble_eq_true rfl)) (sF_76 z8) ?_
        rcases db_e hB with ⟨q11, hB⟩ | ⟨q11, hB⟩
        · refine rg_bt (t := 35) (pc' := 31) rfl rfl q11 ?_
          refine rg_ic (v := (0 : Int32)) rfl (by decide) ?_
          exact sB_81_36 f  _ _ _ _ _ _ _ _ h7 _ hB
        · refine rg_bf (t := 35) (pc' := 31) rfl rfl q11 ?_
          refine rg_ic (v := (1 : Int32)) rfl (by decide) ?_
          refine rg_p (pc' := 36) rfl rfl ?_
          exact sB_81_36 f  _ _ _ _ _ _ _ _ h7 _ hB
      · subst hB
        exact rg_callX (rg_s9 (n := 1) (as := [.int l3]) (ar := []) rfl (rg_s0 rfl) rfl rfl (Nat.le_of_ble_eq_true rfl) rfl rfl (Nat.le_of_ble_eq_true rfl)) (sF_76 z8)
  · subst hB
    exact rg_callX (rg_v9 (n := 2) (b := s1) (as := [.ref s1, .int s0, .int (1 : Int32)]) (ar := []) rfl rfl rfl (Nat.le_of_ble_eq_true rfl) rfl rfl (Nat.le_of_ble_eq_true rfl) (of_decide_eq_true c1)) (sF_75 z3)
def B_81_11 (f : Nat) (l0 : Nat) (l1 : Int32) (l2 : Int32) (l3 : Int32) (l4 : Int32) (s0 : Nat) (h : hp_T) : Option ev_O := (B_81_16 f  l0 l1 l2 l3 l4 (1 : Int32) s0 h)
theorem sB_81_11 (f : Nat) (l0 : Nat) (l1 : Int32) (l2 : Int32) (l3 : Int32) (l4 : Int32) (s0 : Nat) (w5 : Value) (h : hp_T) (o : ev_O) (hB : B_81_11 f l0 l1 l2 l3 l4 s0 h = some o) : rg 81 11 [.ref l0, .int l1, .int l2, .int l3, .int l4, w5] [.ref s0] h o := by
  unfold B_81_11 at hB
  refine rg_ic (v := (1 : Int32)) rfl (by decide) ?_
  refine rg_p (pc' := 16) rfl rfl ?_
  exact sB_81_16 f  _ _ _ _ _ _ _ _ h _ hB
def F_81 (f : Nat) (a0 : Nat) (a1 : Int32) (a2 : Int32) (a3 : Int32) (a4 : Int32) (h : hp_T) : Option ev_O := (db (ev_c .lt a2 0) (B_81_11 f  a0 a1 a2 a3 a4 a0 h) (db (ev_c .le a2 (32 : Int32)) (B_81_16 f  a0 a1 a2 a3 a4 (0 : Int32) a0 h) (B_81_11 f  a0 a1 a2 a3 a4 a0 h)))
theorem sF_81 {f : Nat} {a0 : Nat} {a1 : Int32} {a2 : Int32} {a3 : Int32} {a4 : Int32} {h : hp_T} {o : ev_O} (hB : F_81 f a0 a1 a2 a3 a4 h = some o) : rm 81 [.ref a0, .int a1, .int a2, .int a3, .int a4] h o := by
  unfold F_81 at hB
  refine rm_in (L := [.ref a0, .int a1, .int a2, .int a3, .int a4, .null]) (Nat.le_of_ble_eq_true rfl) rfl ?_
  refine rg_p rfl rfl ?_
  refine rg_p rfl rfl ?_
  rcases db_e hB with ⟨q1, hB⟩ | ⟨q1, hB⟩
  · refine rg_bt (t := 11) (pc' := 5) rfl rfl q1 ?_
    exact sB_81_11 f  _ _ _ _ _ _ _ h _ hB
  · refine rg_bf (t := 11) (pc' := 5) rfl rfl q1 ?_
    refine rg_p rfl rfl ?_
    refine rg_bi (v := (32 : Int32)) rfl (by decide) ?_
    rcases db_e hB with ⟨q2, hB⟩ | ⟨q2, hB⟩
    · refine rg_bt (t := 15) (pc' := 11) rfl rfl q2 ?_
      refine rg_ic (v := (0 : Int32)) rfl (by decide) ?_
      exact sB_81_16 f  _ _ _ _ _ _ _ _ h _ hB
    · refine rg_bf (t := 15) (pc' := 11) rfl rfl q2 ?_
      exact sB_81_11 f  _ _ _ _ _ _ _ h _ hB
-- 82: RouteHouseModel.unroute(II)Z
def B_82_16 (f : Nat) (l0 : Nat) (l1 : Int32) (l2 : Int32) (s0 : Int32) (s1 : Nat) (h : hp_T) : Option ev_O := (dg (decide (hp_k h s1 = some (8, 0))) (di (F_75 f s1 s0 (1 : Int32) h) fun v5 h2 => (db (ev_c .eq v5 0) (dg (decide (hp_k h2 l0 = some (8, 0))) (di (F_80 f l0 l1 l2 h2) fun v11 h8 => (db (ev_c .ne v11 (-1 : Int32)) (dg (decide (hp_k h8 l0 = some (8, 0))) (dl (wz h8 l0 7 ((hp_z h8 l0 7) - (1 : Int32))) fun h14 => (dg (decide (hp_k h14 l0 = some (8, 0))) (dp (hp_p h14 l0 3) fun r17 => (dg (aib 64 h14 r17 (hp_z h14 l0 7)) (dg (aib 64 h14 r17 v11) (dl (wz h14 r17 (Int32.toNatClampNeg v11) (hp_z h14 r17 (Int32.toNatClampNeg (hp_z h14 l0 7)))) fun h21 => (dg (decide (hp_k h21 l0 = some (8, 0))) (dp (hp_p h21 l0 4) fun r24 => (dg (aib 64 h21 r24 (hp_z h21 l0 7)) (dg (aib 64 h21 r24 v11) (dl (wz h21 r24 (Int32.toNatClampNeg v11) (hp_z h21 r24 (Int32.toNatClampNeg (hp_z h21 l0 7)))) fun h28 => (dg (decide (hp_k h28 l0 = some (8, 0))) (dp (hp_p h28 l0 5) fun r31 => (dg (aib 64 h28 r31 (hp_z h28 l0 7)) (dg (aib 64 h28 r31 v11) (dl (wz h28 r31 (Int32.toNatClampNeg v11) (hp_z h28 r31 (Int32.toNatClampNeg (hp_z h28 l0 7)))) fun h35 => (dg (decide (hp_k h35 l0 = some (8, 0))) (dp (hp_p h35 l0 6) fun r38 => (dg (aib 64 h35 r38 (hp_z h35 l0 7)) (dg (aib 64 h35 r38 v11) (dl (wz h35 r38 (Int32.toNatClampNeg v11) (hp_z h35 r38 (Int32.toNatClampNeg (hp_z h35 l0 7)))) fun h42 => (some (.inl (some (.int (1 : Int32))), h42)))))))))))))))))))))))) (some (.inl (some (.int (0 : Int32))), h8))))) (some (.inl (some (.int (0 : Int32))), h2)))))
theorem sB_82_16 (f : Nat) (l0 : Nat) (l1 : Int32) (l2 : Int32) (s0 : Int32) (s1 : Nat) (w3 : Value) (h : hp_T) (o : ev_O) (hB : B_82_16 f l0 l1 l2 s0 s1 h = some o) : rg 82 16 [.ref l0, .int l1, .int l2, w3] [.int s0, .ref s1] h o := by
  unfold B_82_16 at hB
  refine rg_ic (v := (1 : Int32)) rfl (by decide) ?_
  obtain ⟨c1, hB⟩ := dg_e hB
  rcases di_e hB with ⟨v5, h2, z3, hB⟩ | ⟨q4, h2, z3, hB⟩
  · refine rg_call (rg_v9 (n := 2) (b := s1) (as := [.ref s1, .int s0, .int (1 : Int32)]) (ar := []) rfl rfl rfl (Nat.le_of_ble_eq_true rfl) rfl rfl (Nat.le_of_ble_eq_true rfl) (of_decide_eq_true c1)) (sF_75 z3) ?_
    rcases db_e hB with ⟨q6, hB⟩ | ⟨q6, hB⟩
    · refine rg_bt (t := 25) (pc' := 23) rfl rfl q6 ?_
      refine rg_p rfl rfl ?_
      refine rg_p rfl rfl ?_
      refine rg_p rfl rfl ?_
      obtain ⟨c7, hB⟩ := dg_e hB
      rcases di_e hB with ⟨v11, h8, z9, hB⟩ | ⟨q10, h8, z9, hB⟩
      · refine rg_call (rg_v9 (n := 2) (b := l0) (as := [.ref l0, .int l1, .int l2]) (ar := []) rfl rfl rfl (Nat.le_of_ble_eq_true rfl) rfl rfl (Nat.le_of_ble_eq_true rfl) (of_decide_eq_true c7)) (sF_80 z9) ?_
        refine rg_p (L' := [.ref l0, .int l1, .int l2, .int v11]) rfl rfl ?_
        refine rg_p rfl rfl ?_
        refine rg_ic (v := (-1 : Int32)) rfl (by decide) ?_
        rcases db_e hB with ⟨q12, hB⟩ | ⟨q12, hB⟩
        · refine rg_bt (t := 39) (pc' := 37) rfl rfl q12 ?_
          refine rg_p rfl rfl ?_
          refine rg_p rfl rfl ?_
          obtain ⟨c13, hB⟩ := dg_e hB
          refine rg_gz rfl rfl rfl (of_decide_eq_true c13) ?_
          refine rg_ic (v := (1 : Int32)) rfl (by decide) ?_
          refine rg_p rfl rfl ?_
          show rg 82 46 _ _ _ _
          obtain ⟨h14, e15, hB⟩ := dl_e hB
          refine rg_pi rfl rfl rfl (of_decide_eq_true c13) e15 ?_
          refine rg_p rfl rfl ?_
          obtain ⟨c16, hB⟩ := dg_e hB
          obtain ⟨r17, p18, hB⟩ := dp_e hB
          refine rg_gp rfl rfl rfl (of_decide_eq_true c16) p18 ?_
          refine rg_p rfl rfl ?_
          refine rg_p rfl rfl ?_
          refine rg_gp rfl rfl rfl (of_decide_eq_true c16) p18 ?_
          show rg 82 58 _ _ _ _
          refine rg_p rfl rfl ?_
          refine rg_gz rfl rfl rfl (of_decide_eq_true c16) ?_
          obtain ⟨c19, hB⟩ := dg_e hB
          refine rg_ia rfl (ai_of c19) ?_
          obtain ⟨c20, hB⟩ := dg_e hB
          obtain ⟨h21, e22, hB⟩ := dl_e hB
          refine rg_is rfl (ai_of c20) e22 ?_
          refine rg_p rfl rfl ?_
          obtain ⟨c23, hB⟩ := dg_e hB
          obtain ⟨r24, p25, hB⟩ := dp_e hB
          refine rg_gp rfl rfl rfl (of_decide_eq_true c23) p25 ?_
          show rg 82 68 _ _ _ _
          refine rg_p rfl rfl ?_
          refine rg_p rfl rfl ?_
          refine rg_gp rfl rfl rfl (of_decide_eq_true c23) p25 ?_
          refine rg_p rfl rfl ?_
          refine rg_gz rfl rfl rfl (of_decide_eq_true c23) ?_
          obtain ⟨c26, hB⟩ := dg_e hB
          refine rg_ia rfl (ai_of c26) ?_
          show rg 82 78 _ _ _ _
          obtain ⟨c27, hB⟩ := dg_e hB
          obtain ⟨h28, e29, hB⟩ := dl_e hB
          refine rg_is rfl (ai_of c27) e29 ?_
          refine rg_p rfl rfl ?_
          obtain ⟨c30, hB⟩ := dg_e hB
          obtain ⟨r31, p32, hB⟩ := dp_e hB
          refine rg_gp rfl rfl rfl (of_decide_eq_true c30) p32 ?_
          refine rg_p rfl rfl ?_
          refine rg_p rfl rfl ?_
          refine rg_gp rfl rfl rfl (of_decide_eq_true c30) p32 ?_
          show rg 82 88 _ _ _ _
          refine rg_p rfl rfl ?_
          refine rg_gz rfl rfl rfl (of_decide_eq_true c30) ?_
          obtain ⟨c33, hB⟩ := dg_e hB
          refine rg_ia rfl (ai_of c33) ?_
          obtain ⟨c34, hB⟩ := dg_e hB
          obtain ⟨h35, e36, hB⟩ := dl_e hB
          refine rg_is rfl (ai_of c34) e36 ?_
          refine rg_p rfl rfl ?_
          obtain ⟨c37, hB⟩ := dg_e hB
          obtain ⟨r38, p39, hB⟩ := dp_e hB
          refine rg_gp rfl rfl rfl (of_decide_eq_true c37) p39 ?_
          show rg 82 98 _ _ _ _
          refine rg_p rfl rfl ?_
          refine rg_p rfl rfl ?_
          refine rg_gp rfl rfl rfl (of_decide_eq_true c37) p39 ?_
          refine rg_p rfl rfl ?_
          refine rg_gz rfl rfl rfl (of_decide_eq_true c37) ?_
          obtain ⟨c40, hB⟩ := dg_e hB
          refine rg_ia rfl (ai_of c40) ?_
          show rg 82 108 _ _ _ _
          obtain ⟨c41, hB⟩ := dg_e hB
          obtain ⟨h42, e43, hB⟩ := dl_e hB
          refine rg_is rfl (ai_of c41) e43 ?_
          refine rg_ic (v := (1 : Int32)) rfl (by decide) ?_
          cases hB
          exact rg_ri rfl rfl (dz_n dz_1)
        · refine rg_bf (t := 39) (pc' := 37) rfl rfl q12 ?_
          refine rg_ic (v := (0 : Int32)) rfl (by decide) ?_
          cases hB
          exact rg_ri rfl rfl (dz_n dz_0)
      · subst hB
        exact rg_callX (rg_v9 (n := 2) (b := l0) (as := [.ref l0, .int l1, .int l2]) (ar := []) rfl rfl rfl (Nat.le_of_ble_eq_true rfl) rfl rfl (Nat.le_of_ble_eq_true rfl) (of_decide_eq_true c7)) (sF_80 z9)
    · refine rg_bf (t := 25) (pc' := 23) rfl rfl q6 ?_
      refine rg_ic (v := (0 : Int32)) rfl (by decide) ?_
      cases hB
      exact rg_ri rfl rfl (dz_n dz_0)
  · subst hB
    exact rg_callX (rg_v9 (n := 2) (b := s1) (as := [.ref s1, .int s0, .int (1 : Int32)]) (ar := []) rfl rfl rfl (Nat.le_of_ble_eq_true rfl) rfl rfl (Nat.le_of_ble_eq_true rfl) (of_decide_eq_true c1)) (sF_75 z3)
def B_82_11 (f : Nat) (l0 : Nat) (l1 : Int32) (l2 : Int32) (s0 : Nat) (h : hp_T) : Option ev_O := (B_82_16 f  l0 l1 l2 (1 : Int32) s0 h)
theorem sB_82_11 (f : Nat) (l0 : Nat) (l1 : Int32) (l2 : Int32) (s0 : Nat) (w3 : Value) (h : hp_T) (o : ev_O) (hB : B_82_11 f l0 l1 l2 s0 h = some o) : rg 82 11 [.ref l0, .int l1, .int l2, w3] [.ref s0] h o := by
  unfold B_82_11 at hB
  refine rg_ic (v := (1 : Int32)) rfl (by decide) ?_
  refine rg_p (pc' := 16) rfl rfl ?_
  exact sB_82_16 f  _ _ _ _ _ _ h _ hB
def F_82 (f : Nat) (a0 : Nat) (a1 : Int32) (a2 : Int32) (h : hp_T) : Option ev_O := (db (ev_c .lt a2 0) (B_82_11 f  a0 a1 a2 a0 h) (db (ev_c .le a2 (32 : Int32)) (B_82_16 f  a0 a1 a2 (0 : Int32) a0 h) (B_82_11 f  a0 a1 a2 a0 h)))
theorem sF_82 {f : Nat} {a0 : Nat} {a1 : Int32} {a2 : Int32} {h : hp_T} {o : ev_O} (hB : F_82 f a0 a1 a2 h = some o) : rm 82 [.ref a0, .int a1, .int a2] h o := by
  unfold F_82 at hB
  refine rm_in (L := [.ref a0, .int a1, .int a2, .null]) (Nat.le_of_ble_eq_true rfl) rfl ?_
  refine rg_p rfl rfl ?_
  refine rg_p rfl rfl ?_
  rcases db_e hB with ⟨q1, hB⟩ | ⟨q1, hB⟩
  · refine rg_bt (t := 11) (pc' := 5) rfl rfl q1 ?_
    exact sB_82_11 f  _ _ _ _ _ h _ hB
  · refine rg_bf (t := 11) (pc' := 5) rfl rfl q1 ?_
    refine rg_p rfl rfl ?_
    refine rg_bi (v := (32 : Int32)) rfl (by decide) ?_
    rcases db_e hB with ⟨q2, hB⟩ | ⟨q2, hB⟩
    · refine rg_bt (t := 15) (pc' := 11) rfl rfl q2 ?_
      refine rg_ic (v := (0 : Int32)) rfl (by decide) ?_
      exact sB_82_16 f  _ _ _ _ _ _ h _ hB
    · refine rg_bf (t := 15) (pc' := 11) rfl rfl q2 ?_
      exact sB_82_11 f  _ _ _ _ _ h _ hB
-- 83: RouteHouseModel.find(I)I
def B_83_53 (f : Nat) (C4 : Nat → Int32 → Int32 → Int32 → hp_T → Option ev_O) (l0 : Nat) (l1 : Int32) (l2 : Int32) (l3 : Int32) (h : hp_T) : Option ev_O := (C4 l0 l1 l2 (l3 + (1 : Int32)) h)
theorem sB_83_53 (f : Nat) (C4 : Nat → Int32 → Int32 → Int32 → hp_T → Option ev_O) (hC4 : ∀ (l0 : Nat) (l1 : Int32) (l2 : Int32) (l3 : Int32) (h : hp_T) (o : ev_O), C4 l0 l1 l2 l3 h = some o → rg 83 4 [.ref l0, .int l1, .int l2, .int l3] [] h o) (l0 : Nat) (l1 : Int32) (l2 : Int32) (l3 : Int32) (h : hp_T) (o : ev_O) (hB : B_83_53 f C4 l0 l1 l2 l3 h = some o) : rg 83 53 [.ref l0, .int l1, .int l2, .int l3] [] h o := by
  unfold B_83_53 at hB
  refine rg_p (L' := [.ref l0, .int l1, .int l2, .int (l3 + (1 : Int32))]) rfl rfl ?_
  refine rg_p (pc' := 4) rfl rfl ?_
  exact hC4 _ _ _ _ h _ hB
def B_83_51 (f : Nat) (C4 : Nat → Int32 → Int32 → Int32 → hp_T → Option ev_O) (l0 : Nat) (l1 : Int32) (l3 : Int32) (h : hp_T) : Option ev_O := (B_83_53 f C4 l0 l1 l3 l3 h)
theorem sB_83_51 (f : Nat) (C4 : Nat → Int32 → Int32 → Int32 → hp_T → Option ev_O) (hC4 : ∀ (l0 : Nat) (l1 : Int32) (l2 : Int32) (l3 : Int32) (h : hp_T) (o : ev_O), C4 l0 l1 l2 l3 h = some o → rg 83 4 [.ref l0, .int l1, .int l2, .int l3] [] h o) (l0 : Nat) (l1 : Int32) (l3 : Int32) (w2 : Value) (h : hp_T) (o : ev_O) (hB : B_83_51 f C4 l0 l1 l3 h = some o) : rg 83 51 [.ref l0, .int l1, w2, .int l3] [] h o := by
  unfold B_83_51 at hB
  refine rg_p rfl rfl ?_
  refine rg_p (L' := [.ref l0, .int l1, .int l3, .int l3]) rfl rfl ?_
  exact sB_83_53 f C4 hC4 _ _ _ _ h _ hB
def B_83_4 (f : Nat) : Nat → Nat → Int32 → Int32 → Int32 → hp_T → Option ev_O
  | 0, _, _, _, _, _ => none
  | g + 1, l0, l1, l2, l3, h => (dg (decide (hp_k h l0 = some (8, 0))) (db (ev_c .ge l3 (hp_z h l0 7)) (some (.inl (some (.int l2)), h)) (dp (hp_p h l0 3) fun r3 => (dg (aib 64 h r3 l3) (dp (hp_p h l0 4) fun r6 => (dg (aib 64 h r6 l3) (di (F_79 f l1 (hp_z h r6 (Int32.toNatClampNeg l3)) h) fun v12 h9 => (db (ev_c .ne (hp_z h r3 (Int32.toNatClampNeg l3)) v12) (B_83_53 f (B_83_4 f g) l0 l1 l2 l3 h9) (db (ev_c .eq l2 (-1 : Int32)) (B_83_51 f (B_83_4 f g) l0 l1 l3 h9) (dg (decide (hp_k h9 l0 = some (8, 0))) (dp (hp_p h9 l0 4) fun r16 => (dg (aib 64 h9 r16 l3) (dg (aib 64 h9 r16 l2) (db (ev_c .le (hp_z h9 r16 (Int32.toNatClampNeg l3)) (hp_z h9 r16 (Int32.toNatClampNeg l2))) (B_83_53 f (B_83_4 f g) l0 l1 l2 l3 h9) (B_83_51 f (B_83_4 f g) l0 l1 l3 h9)))))))))))))))
theorem sB_83_4 (f : Nat) : ∀ (g : Nat) (l0 : Nat) (l1 : Int32) (l2 : Int32) (l3 : Int32) (h : hp_T) (o : ev_O), B_83_4 f g l0 l1 l2 l3 h = some o → rg 83 4 [.ref l0, .int l1, .int l2, .int l3] [] h o := by
  intro g
  induction g with
  | zero =>
    intro l0 l1 l2 l3  h o hB
    rw [B_83_4] at hB
    cases hB
  | succ g ih =>
    intro l0 l1 l2 l3  h o hB
    rw [B_83_4] at hB
    refine rg_p rfl rfl ?_
    refine rg_p rfl rfl ?_
    obtain ⟨c1, hB⟩ := dg_e hB
    refine rg_gz rfl rfl rfl (of_decide_eq_true c1) ?_
    rcases db_e hB with ⟨q2, hB⟩ | ⟨q2, hB⟩
    · refine rg_bt (t := 59) (pc' := 12) rfl rfl q2 ?_
      refine rg_p rfl rfl ?_
      cases hB
      exact rg_ri rfl rfl rfl
    · refine rg_bf (t := 59) (pc' := 12) rfl rfl q2 ?_
      refine rg_p rfl rfl ?_
      obtain ⟨r3, p4, hB⟩ := dp_e hB
      refine rg_gp rfl rfl rfl (of_decide_eq_true c1) p4 ?_
      refine rg_p rfl rfl ?_
      obtain ⟨c5, hB⟩ := dg_e hB
      refine rg_ia rfl (ai_of c5) ?_
      refine rg_p rfl rfl ?_
      show rg 83 19 _ _ _ _
      refine rg_p rfl rfl ?_
      obtain ⟨r6, p7, hB⟩ := dp_e hB
      refine rg_gp rfl rfl rfl (of_decide_eq_true c1) p7 ?_
      refine rg_p rfl rfl ?_
      obtain ⟨c8, hB⟩ := dg_e hB
      refine rg_ia rfl (ai_of c8) ?_
      rcases di_e hB with ⟨v12, h9, z10, hB⟩ | ⟨q11, h9, z10, hB⟩
      · refine rg_call (rg_s9 (n := 2) (as := [.int l1, .int (hp_z h r6 (Int32.toNatClampNeg l3))]) (ar := []) rfl (rg_s0 rfl) rfl rfl (Nat.le_of_ble_eq_true rfl) rfl rfl (Nat.le_of_ble_eq_true rfl)) (sF_79 z10) ?_
        rcases db_e hB with ⟨q13, hB⟩ | ⟨q13, hB⟩
        · refine rg_bt (t := 53) (pc' := 31) rfl rfl q13 ?_
          exact sB_83_53 f (B_83_4 f g) ih _ _ _ _ h9 _ hB
        · refine rg_bf (t := 53) (pc' := 31) rfl rfl q13 ?_
          refine rg_p rfl rfl ?_
          refine rg_ic (v := (-1 : Int32)) rfl (by decide) ?_
          rcases db_e hB with ⟨q14, hB⟩ | ⟨q14, hB⟩
          · refine rg_bt (t := 51) (pc' := 36) rfl rfl q14 ?_
            exact sB_83_51 f (B_83_4 f g) ih _ _ _ _ h9 _ hB
          · refine rg_bf (t := 51) (pc' := 36) rfl rfl q14 ?_
            refine rg_p rfl rfl ?_
            obtain ⟨c15, hB⟩ := dg_e hB
            obtain ⟨r16, p17, hB⟩ := dp_e hB
            refine rg_gp rfl rfl rfl (of_decide_eq_true c15) p17 ?_
            refine rg_p rfl rfl ?_
            obtain ⟨c18, hB⟩ := dg_e hB
            refine rg_ia rfl (ai_of c18) ?_
            refine rg_p rfl rfl ?_
            show rg 83 43 _ _ _ _
            refine rg_gp rfl rfl rfl (of_decide_eq_true c15) p17 ?_
            refine rg_p rfl rfl ?_
            obtain ⟨c19, hB⟩ := dg_e hB
            refine rg_ia rfl (ai_of c19) ?_
            rcases db_e hB with ⟨q20, hB⟩ | ⟨q20, hB⟩
            · refine rg_bt (t := 53) (pc' := 51) rfl rfl q20 ?_
              exact sB_83_53 f (B_83_4 f g) ih _ _ _ _ h9 _ hB
            · refine rg_bf (t := 53) (pc' := 51) rfl rfl q20 ?_
              exact sB_83_51 f (B_83_4 f g) ih _ _ _ _ h9 _ hB
      · subst hB
        exact rg_callX (rg_s9 (n := 2) (as := [.int l1, .int (hp_z h r6 (Int32.toNatClampNeg l3))]) (ar := []) rfl (rg_s0 rfl) rfl rfl (Nat.le_of_ble_eq_true rfl) rfl rfl (Nat.le_of_ble_eq_true rfl)) (sF_79 z10)
def F_83 (f : Nat) (a0 : Nat) (a1 : Int32) (h : hp_T) : Option ev_O := (B_83_4 f  f a0 a1 (-1 : Int32) (0 : Int32) h)
theorem sF_83 {f : Nat} {a0 : Nat} {a1 : Int32} {h : hp_T} {o : ev_O} (hB : F_83 f a0 a1 h = some o) : rm 83 [.ref a0, .int a1] h o := by
  unfold F_83 at hB
  refine rm_in (L := [.ref a0, .int a1, .null, .null]) (Nat.le_of_ble_eq_true rfl) rfl ?_
  refine rg_ic (v := (-1 : Int32)) rfl (by decide) ?_
  refine rg_p (L' := [.ref a0, .int a1, .int (-1 : Int32), .null]) rfl rfl ?_
  refine rg_ic (v := (0 : Int32)) rfl (by decide) ?_
  refine rg_p (L' := [.ref a0, .int a1, .int (-1 : Int32), .int (0 : Int32)]) rfl rfl ?_
  exact sB_83_4 f  f _ _ _ _ h _ hB
-- 84: RouteHouseModel.lookup(II)I
def B_84_79 (f : Nat) (s0 : Int32) (h : hp_T) : Option ev_O := (some (.inl (some (.int s0)), h))
theorem sB_84_79 (f : Nat) (s0 : Int32) (w0 : Value) (w1 : Value) (w2 : Value) (w3 : Value) (h : hp_T) (o : ev_O) (hB : B_84_79 f s0 h = some o) : rg 84 79 [w0, w1, w2, w3] [.int s0] h o := by
  unfold B_84_79 at hB
  cases hB
  exact rg_ri rfl rfl rfl
def B_84_50 (f : Nat) (s0 : Int32) (h : hp_T) : Option ev_O := (some (.inl (some (.int s0)), h))
theorem sB_84_50 (f : Nat) (s0 : Int32) (w0 : Value) (w1 : Value) (w2 : Value) (w3 : Value) (h : hp_T) (o : ev_O) (hB : B_84_50 f s0 h = some o) : rg 84 50 [w0, w1, w2, w3] [.int s0] h o := by
  unfold B_84_50 at hB
  cases hB
  exact rg_ri rfl rfl rfl
def B_84_15 (f : Nat) (l0 : Nat) (l1 : Int32) (l2 : Int32) (s0 : Int32) (s1 : Nat) (h : hp_T) : Option ev_O := (dg (decide (hp_k h s1 = some (8, 0))) (di (F_75 f s1 s0 (1 : Int32) h) fun v5 h2 => (db (ev_c .eq v5 0) (dg (decide (hp_k h2 l0 = some (8, 0))) (di (F_83 f l0 l1 h2) fun v11 h8 => (db (ev_c .ne l2 (2 : Int32)) (db (ev_c .ne v11 (-1 : Int32)) (db (ev_c .ne l2 0) (dg (decide (hp_k h8 l0 = some (8, 0))) (dp (hp_p h8 l0 4) fun r16 => (dg (aib 64 h8 r16 v11) (B_84_79 f  (hp_z h8 r16 (Int32.toNatClampNeg v11)) h8)))) (dg (decide (hp_k h8 l0 = some (8, 0))) (dp (hp_p h8 l0 5) fun r20 => (dg (aib 64 h8 r20 v11) (B_84_79 f  (hp_z h8 r20 (Int32.toNatClampNeg v11)) h8))))) (B_84_79 f  (-1 : Int32) h8)) (db (ev_c .ne v11 (-1 : Int32)) (dg (decide (hp_k h8 l0 = some (8, 0))) (dp (hp_p h8 l0 6) fun r25 => (dg (aib 64 h8 r25 v11) (B_84_50 f  (hp_z h8 r25 (Int32.toNatClampNeg v11)) h8)))) (B_84_50 f  (0 : Int32) h8))))) (some (.inl (some (.int (0 : Int32))), h2)))))
theorem sB_84_15 (f : Nat) (l0 : Nat) (l1 : Int32) (l2 : Int32) (s0 : Int32) (s1 : Nat) (w3 : Value) (h : hp_T) (o : ev_O) (hB : B_84_15 f l0 l1 l2 s0 s1 h = some o) : rg 84 15 [.ref l0, .int l1, .int l2, w3] [.int s0, .ref s1] h o := by
  unfold B_84_15 at hB
  refine rg_ic (v := (1 : Int32)) rfl (by decide) ?_
  obtain ⟨c1, hB⟩ := dg_e hB
  rcases di_e hB with ⟨v5, h2, z3, hB⟩ | ⟨q4, h2, z3, hB⟩
  · refine rg_call (rg_v9 (n := 2) (b := s1) (as := [.ref s1, .int s0, .int (1 : Int32)]) (ar := []) rfl rfl rfl (Nat.le_of_ble_eq_true rfl) rfl rfl (Nat.le_of_ble_eq_true rfl) (of_decide_eq_true c1)) (sF_75 z3) ?_
    rcases db_e hB with ⟨q6, hB⟩ | ⟨q6, hB⟩
    · refine rg_bt (t := 24) (pc' := 22) rfl rfl q6 ?_
      refine rg_p rfl rfl ?_
      refine rg_p rfl rfl ?_
      obtain ⟨c7, hB⟩ := dg_e hB
      rcases di_e hB with ⟨v11, h8, z9, hB⟩ | ⟨q10, h8, z9, hB⟩
      · refine rg_call (rg_v9 (n := 1) (b := l0) (as := [.ref l0, .int l1]) (ar := []) rfl rfl rfl (Nat.le_of_ble_eq_true rfl) rfl rfl (Nat.le_of_ble_eq_true rfl) (of_decide_eq_true c7)) (sF_83 z9) ?_
        refine rg_p (L' := [.ref l0, .int l1, .int l2, .int v11]) rfl rfl ?_
        refine rg_p rfl rfl ?_
        refine rg_ic (v := (2 : Int32)) rfl (by decide) ?_
        rcases db_e hB with ⟨q12, hB⟩ | ⟨q12, hB⟩
        · refine rg_bt (t := 51) (pc' := 35) rfl rfl q12 ?_
          refine rg_p rfl rfl ?_
          refine rg_ic (v := (-1 : Int32)) rfl (by decide) ?_
          rcases db_e hB with ⟨q13, hB⟩ | ⟨q13, hB⟩
          · refine rg_bt (t := 60) (pc' := 56) rfl rfl q13 ?_
            refine rg_p rfl rfl ?_
            rcases db_e hB with ⟨q14, hB⟩ | ⟨q14, hB⟩
            · refine rg_bt (t := 73) (pc' := 64) rfl rfl q14 ?_
              refine rg_p rfl rfl ?_
              obtain ⟨c15, hB⟩ := dg_e hB
              obtain ⟨r16, p17, hB⟩ := dp_e hB
              refine rg_gp rfl rfl rfl (of_decide_eq_true c15) p17 ?_
              refine rg_p rfl rfl ?_
              obtain ⟨c18, hB⟩ := dg_e hB
              refine rg_ia rfl (ai_of c18) ?_
              exact sB_84_79 f  _ _ _ _ _ h8 _ hB
            · refine rg_bf (t := 73) (pc' := 64) rfl rfl q14 ?_
              refine rg_p rfl rfl ?_
              obtain ⟨c19, hB⟩ := dg_e hB
              obtain ⟨r20, p21, hB⟩ := dp_e hB
              refine rg_gp rfl rfl rfl (of_decide_eq_true c19) p21 ?_
              refine rg_p rfl rfl ?_
              obtain ⟨c22, hB⟩ := dg_e hB
              refine rg_ia rfl (ai_of c22) ?_
              refine rg_p (pc' := 79) rfl rfl ?_
              exact sB_84_79 f  _ _ _ _ _ h8 _ hB
          · refine rg_bf (t := 60) (pc' := 56) rfl rfl q13 ?_
            refine rg_ic (v := (-1 : Int32)) rfl (by decide) ?_
            refine rg_p (pc' := 79) rfl rfl ?_
            exact sB_84_79 f  _ _ _ _ _ h8 _ hB
        · refine rg_bf (t := 51) (pc' := 35) rfl rfl q12 ?_
          refine rg_p rfl rfl ?_
          refine rg_ic (v := (-1 : Int32)) rfl (by decide) ?_
          rcases db_e hB with ⟨q23, hB⟩ | ⟨q23, hB⟩
          · refine rg_bt (t := 44) (pc' := 40) rfl rfl q23 ?_
            refine rg_p rfl rfl ?_
            obtain ⟨c24, hB⟩ := dg_e hB
            obtain ⟨r25, p26, hB⟩ := dp_e hB
            refine rg_gp rfl rfl rfl (of_decide_eq_true c24) p26 ?_
            refine rg_p rfl rfl ?_
            obtain ⟨c27, hB⟩ := dg_e hB
            refine rg_ia rfl (ai_of c27) ?_
            exact sB_84_50 f  _ _ _ _ _ h8 _ hB
          · refine rg_bf (t := 44) (pc' := 40) rfl rfl q23 ?_
            refine rg_ic (v := (0 : Int32)) rfl (by decide) ?_
            refine rg_p (pc' := 50) rfl rfl ?_
            exact sB_84_50 f  _ _ _ _ _ h8 _ hB
      · subst hB
        exact rg_callX (rg_v9 (n := 1) (b := l0) (as := [.ref l0, .int l1]) (ar := []) rfl rfl rfl (Nat.le_of_ble_eq_true rfl) rfl rfl (Nat.le_of_ble_eq_true rfl) (of_decide_eq_true c7)) (sF_83 z9)
    · refine rg_bf (t := 24) (pc' := 22) rfl rfl q6 ?_
      refine rg_ic (v := (0 : Int32)) rfl (by decide) ?_
      cases hB
      exact rg_ri rfl rfl rfl
  · subst hB
    exact rg_callX (rg_v9 (n := 2) (b := s1) (as := [.ref s1, .int s0, .int (1 : Int32)]) (ar := []) rfl rfl rfl (Nat.le_of_ble_eq_true rfl) rfl rfl (Nat.le_of_ble_eq_true rfl) (of_decide_eq_true c1)) (sF_75 z3)
def B_84_10 (f : Nat) (l0 : Nat) (l1 : Int32) (l2 : Int32) (s0 : Nat) (h : hp_T) : Option ev_O := (B_84_15 f  l0 l1 l2 (1 : Int32) s0 h)
theorem sB_84_10 (f : Nat) (l0 : Nat) (l1 : Int32) (l2 : Int32) (s0 : Nat) (w3 : Value) (h : hp_T) (o : ev_O) (hB : B_84_10 f l0 l1 l2 s0 h = some o) : rg 84 10 [.ref l0, .int l1, .int l2, w3] [.ref s0] h o := by
  unfold B_84_10 at hB
  refine rg_ic (v := (1 : Int32)) rfl (by decide) ?_
  refine rg_p (pc' := 15) rfl rfl ?_
  exact sB_84_15 f  _ _ _ _ _ _ h _ hB
def F_84 (f : Nat) (a0 : Nat) (a1 : Int32) (a2 : Int32) (h : hp_T) : Option ev_O := (db (ev_c .lt a2 0) (B_84_10 f  a0 a1 a2 a0 h) (db (ev_c .le a2 (2 : Int32)) (B_84_15 f  a0 a1 a2 (0 : Int32) a0 h) (B_84_10 f  a0 a1 a2 a0 h)))
theorem sF_84 {f : Nat} {a0 : Nat} {a1 : Int32} {a2 : Int32} {h : hp_T} {o : ev_O} (hB : F_84 f a0 a1 a2 h = some o) : rm 84 [.ref a0, .int a1, .int a2] h o := by
  unfold F_84 at hB
  refine rm_in (L := [.ref a0, .int a1, .int a2, .null]) (Nat.le_of_ble_eq_true rfl) rfl ?_
  refine rg_p rfl rfl ?_
  refine rg_p rfl rfl ?_
  rcases db_e hB with ⟨q1, hB⟩ | ⟨q1, hB⟩
  · refine rg_bt (t := 10) (pc' := 5) rfl rfl q1 ?_
    exact sB_84_10 f  _ _ _ _ _ h _ hB
  · refine rg_bf (t := 10) (pc' := 5) rfl rfl q1 ?_
    refine rg_p rfl rfl ?_
    refine rg_ic (v := (2 : Int32)) rfl (by decide) ?_
    rcases db_e hB with ⟨q2, hB⟩ | ⟨q2, hB⟩
    · refine rg_bt (t := 14) (pc' := 10) rfl rfl q2 ?_
      refine rg_ic (v := (0 : Int32)) rfl (by decide) ?_
      exact sB_84_15 f  _ _ _ _ _ _ h _ hB
    · refine rg_bf (t := 14) (pc' := 10) rfl rfl q2 ?_
      exact sB_84_10 f  _ _ _ _ _ h _ hB
-- 85: RouteHouseModel.feed(IIIII)I
def B_85_84 (f : Nat) (C31 : Nat → Int32 → Int32 → Int32 → Int32 → Int32 → Int32 → hp_T → Option ev_O) (l0 : Nat) (l1 : Int32) (l2 : Int32) (l3 : Int32) (l4 : Int32) (l5 : Int32) (l6 : Int32) (s0 : Int32) (h : hp_T) : Option ev_O := (dg (decide (hp_k h l0 = some (8, 0))) (dp (hp_p h l0 8) fun r2 => (dg (aib 64 h r2 ((hp_z h l0 9) + l6)) (dl (wz h r2 (Int32.toNatClampNeg ((hp_z h l0 9) + l6)) ((s0 >>> (((24 : Int32) - ((8 : Int32) * (l6 - l6 / (4 : Int32) * (4 : Int32)))) &&& 31)) &&& (255 : Int32))) fun h5 => (C31 l0 l1 l2 l3 l4 l5 (l6 + (1 : Int32)) h5)))))
theorem sB_85_84 (f : Nat) (C31 : Nat → Int32 → Int32 → Int32 → Int32 → Int32 → Int32 → hp_T → Option ev_O) (hC31 : ∀ (l0 : Nat) (l1 : Int32) (l2 : Int32) (l3 : Int32) (l4 : Int32) (l5 : Int32) (l6 : Int32) (w7 : Value) (h : hp_T) (o : ev_O), C31 l0 l1 l2 l3 l4 l5 l6 h = some o → rg 85 31 [.ref l0, .int l1, .int l2, .int l3, .int l4, .int l5, .int l6, w7] [] h o) (l0 : Nat) (l1 : Int32) (l2 : Int32) (l3 : Int32) (l4 : Int32) (l5 : Int32) (l6 : Int32) (s0 : Int32) (w7 : Value) (h : hp_T) (o : ev_O) (hB : B_85_84 f C31 l0 l1 l2 l3 l4 l5 l6 s0 h = some o) : rg 85 84 [.ref l0, .int l1, .int l2, .int l3, .int l4, .int l5, .int l6, w7] [.int s0] h o := by
  unfold B_85_84 at hB
  refine rg_p (L' := [.ref l0, .int l1, .int l2, .int l3, .int l4, .int l5, .int l6, .int s0]) rfl rfl ?_
  refine rg_p rfl rfl ?_
  obtain ⟨c1, hB⟩ := dg_e hB
  obtain ⟨r2, p3, hB⟩ := dp_e hB
  refine rg_gp rfl rfl rfl (of_decide_eq_true c1) p3 ?_
  refine rg_p rfl rfl ?_
  refine rg_gz rfl rfl rfl (of_decide_eq_true c1) ?_
  show rg 85 94 _ _ _ _
  refine rg_p rfl rfl ?_
  refine rg_p rfl rfl ?_
  refine rg_p rfl rfl ?_
  refine rg_bi (v := (24 : Int32)) rfl (by decide) ?_
  refine rg_bi (v := (8 : Int32)) rfl (by decide) ?_
  refine rg_p rfl rfl ?_
  show rg 85 105 _ _ _ _
  refine rg_ic (v := (4 : Int32)) rfl (by decide) ?_
  refine rg_rm rfl (by decide) ?_
  refine rg_p rfl rfl ?_
  refine rg_p rfl rfl ?_
  refine rg_p rfl rfl ?_
  refine rg_si (v := (255 : Int32)) rfl (by decide) ?_
  show rg 85 113 _ _ _ _
  refine rg_p rfl rfl ?_
  obtain ⟨c4, hB⟩ := dg_e hB
  obtain ⟨h5, e6, hB⟩ := dl_e hB
  refine rg_is rfl (ai_of c4) e6 ?_
  refine rg_p (L' := [.ref l0, .int l1, .int l2, .int l3, .int l4, .int l5, .int (l6 + (1 : Int32)), .int s0]) rfl rfl ?_
  refine rg_p (pc' := 31) rfl rfl ?_
  exact hC31 _ _ _ _ _ _ _ _ h5 _ hB
def B_85_31 (f : Nat) : Nat → Nat → Int32 → Int32 → Int32 → Int32 → Int32 → Int32 → hp_T → Option ev_O
  | 0, _, _, _, _, _, _, _, _ => none
  | g + 1, l0, l1, l2, l3, l4, l5, l6, h => (db (ev_c .ge l6 (20 : Int32)) (dg (decide (hp_k h l0 = some (8, 0))) (dl (wz h l0 9 ((hp_z h l0 9) + (20 : Int32))) fun h3 => (dg (decide (hp_k h3 l0 = some (8, 0))) (some (.inl (some (.int (hp_z h3 l0 9))), h3))))) (db (ev_c .ge l6 (4 : Int32)) (db (ev_c .ge l6 (8 : Int32)) (db (ev_c .ge l6 (12 : Int32)) (db (ev_c .ge l6 (16 : Int32)) (B_85_84 f (B_85_31 f g) l0 l1 l2 l3 l4 l5 l6 l5 h) (B_85_84 f (B_85_31 f g) l0 l1 l2 l3 l4 l5 l6 l4 h)) (B_85_84 f (B_85_31 f g) l0 l1 l2 l3 l4 l5 l6 l3 h)) (B_85_84 f (B_85_31 f g) l0 l1 l2 l3 l4 l5 l6 l2 h)) (B_85_84 f (B_85_31 f g) l0 l1 l2 l3 l4 l5 l6 l1 h)))
theorem sB_85_31 (f : Nat) : ∀ (g : Nat) (l0 : Nat) (l1 : Int32) (l2 : Int32) (l3 : Int32) (l4 : Int32) (l5 : Int32) (l6 : Int32) (w7 : Value) (h : hp_T) (o : ev_O), B_85_31 f g l0 l1 l2 l3 l4 l5 l6 h = some o → rg 85 31 [.ref l0, .int l1, .int l2, .int l3, .int l4, .int l5, .int l6, w7] [] h o := by
  intro g
  induction g with
  | zero =>
    intro l0 l1 l2 l3 l4 l5 l6 w7 h o hB
    rw [B_85_31] at hB
    cases hB
  | succ g ih =>
    intro l0 l1 l2 l3 l4 l5 l6 w7 h o hB
    rw [B_85_31] at hB
    refine rg_p rfl rfl ?_
    refine rg_bi (v := (20 : Int32)) rfl (by decide) ?_
    rcases db_e hB with ⟨q1, hB⟩ | ⟨q1, hB⟩
    · refine rg_bt (t := 121) (pc' := 38) rfl rfl q1 ?_
      refine rg_p rfl rfl ?_
      refine rg_p rfl rfl ?_
      obtain ⟨c2, hB⟩ := dg_e hB
      refine rg_gz rfl rfl rfl (of_decide_eq_true c2) ?_
      refine rg_bi (v := (20 : Int32)) rfl (by decide) ?_
      refine rg_p rfl rfl ?_
      show rg 85 129 _ _ _ _
      obtain ⟨h3, e4, hB⟩ := dl_e hB
      refine rg_pi rfl rfl rfl (of_decide_eq_true c2) e4 ?_
      refine rg_p rfl rfl ?_
      obtain ⟨c5, hB⟩ := dg_e hB
      refine rg_gz rfl rfl rfl (of_decide_eq_true c5) ?_
      cases hB
      exact rg_ri rfl rfl rfl
    · refine rg_bf (t := 121) (pc' := 38) rfl rfl q1 ?_
      refine rg_p rfl rfl ?_
      refine rg_ic (v := (4 : Int32)) rfl (by decide) ?_
      rcases db_e hB with ⟨q6, hB⟩ | ⟨q6, hB⟩
      · refine rg_bt (t := 48) (pc' := 44) rfl rfl q6 ?_
        refine rg_p rfl rfl ?_
        refine rg_bi (v := (8 : Int32)) rfl (by decide) ?_
        rcases db_e hB with ⟨q7, hB⟩ | ⟨q7, hB⟩
        · refine rg_bt (t := 59) (pc' := 55) rfl rfl q7 ?_
          refine rg_p rfl rfl ?_
          refine rg_bi (v := (12 : Int32)) rfl (by decide) ?_
          rcases db_e hB with ⟨q8, hB⟩ | ⟨q8, hB⟩
          · refine rg_bt (t := 70) (pc' := 66) rfl rfl q8 ?_
            refine rg_p rfl rfl ?_
            refine rg_bi (v := (16 : Int32)) rfl (by decide) ?_
            rcases db_e hB with ⟨q9, hB⟩ | ⟨q9, hB⟩
            · refine rg_bt (t := 82) (pc' := 77) rfl rfl q9 ?_
              refine rg_p rfl rfl ?_
              exact sB_85_84 f (B_85_31 f g) ih _ _ _ _ _ _ _ _ _ h _ hB
            · refine rg_bf (t := 82) (pc' := 77) rfl rfl q9 ?_
              refine rg_p rfl rfl ?_
              refine rg_p (pc' := 84) rfl rfl ?_
              exact sB_85_84 f (B_85_31 f g) ih _ _ _ _ _ _ _ _ _ h _ hB
          · refine rg_bf (t := 70) (pc' := 66) rfl rfl q8 ?_
            refine rg_p rfl rfl ?_
            refine rg_p (pc' := 84) rfl rfl ?_
            exact sB_85_84 f (B_85_31 f g) ih _ _ _ _ _ _ _ _ _ h _ hB
        · refine rg_bf (t := 59) (pc' := 55) rfl rfl q7 ?_
          refine rg_p rfl rfl ?_
          refine rg_p (pc' := 84) rfl rfl ?_
          exact sB_85_84 f (B_85_31 f g) ih _ _ _ _ _ _ _ _ _ h _ hB
      · refine rg_bf (t := 48) (pc' := 44) rfl rfl q6 ?_
        refine rg_p rfl rfl ?_
        refine rg_p (pc' := 84) rfl rfl ?_
        exact sB_85_84 f (B_85_31 f g) ih _ _ _ _ _ _ _ _ _ h _ hB
def B_85_19 (f : Nat) (l0 : Nat) (l1 : Int32) (l2 : Int32) (l3 : Int32) (l4 : Int32) (l5 : Int32) (s0 : Int32) (s1 : Nat) (h : hp_T) : Option ev_O := (dg (decide (hp_k h s1 = some (8, 0))) (di (F_75 f s1 s0 (1 : Int32) h) fun v5 h2 => (db (ev_c .eq v5 0) (B_85_31 f  f l0 l1 l2 l3 l4 l5 (0 : Int32) h2) (some (.inl (some (.int (0 : Int32))), h2)))))
theorem sB_85_19 (f : Nat) (l0 : Nat) (l1 : Int32) (l2 : Int32) (l3 : Int32) (l4 : Int32) (l5 : Int32) (s0 : Int32) (s1 : Nat) (w6 : Value) (w7 : Value) (h : hp_T) (o : ev_O) (hB : B_85_19 f l0 l1 l2 l3 l4 l5 s0 s1 h = some o) : rg 85 19 [.ref l0, .int l1, .int l2, .int l3, .int l4, .int l5, w6, w7] [.int s0, .ref s1] h o := by
  unfold B_85_19 at hB
  refine rg_ic (v := (1 : Int32)) rfl (by decide) ?_
  obtain ⟨c1, hB⟩ := dg_e hB
  rcases di_e hB with ⟨v5, h2, z3, hB⟩ | ⟨q4, h2, z3, hB⟩
  · refine rg_call (rg_v9 (n := 2) (b := s1) (as := [.ref s1, .int s0, .int (1 : Int32)]) (ar := []) rfl rfl rfl (Nat.le_of_ble_eq_true rfl) rfl rfl (Nat.le_of_ble_eq_true rfl) (of_decide_eq_true c1)) (sF_75 z3) ?_
    rcases db_e hB with ⟨q6, hB⟩ | ⟨q6, hB⟩
    · refine rg_bt (t := 28) (pc' := 26) rfl rfl q6 ?_
      refine rg_ic (v := (0 : Int32)) rfl (by decide) ?_
      refine rg_p (L' := [.ref l0, .int l1, .int l2, .int l3, .int l4, .int l5, .int (0 : Int32), w7]) rfl rfl ?_
      exact sB_85_31 f  f _ _ _ _ _ _ _ _ h2 _ hB
    · refine rg_bf (t := 28) (pc' := 26) rfl rfl q6 ?_
      refine rg_ic (v := (0 : Int32)) rfl (by decide) ?_
      cases hB
      exact rg_ri rfl rfl rfl
  · subst hB
    exact rg_callX (rg_v9 (n := 2) (b := s1) (as := [.ref s1, .int s0, .int (1 : Int32)]) (ar := []) rfl rfl rfl (Nat.le_of_ble_eq_true rfl) rfl rfl (Nat.le_of_ble_eq_true rfl) (of_decide_eq_true c1)) (sF_75 z3)
def F_85 (f : Nat) (a0 : Nat) (a1 : Int32) (a2 : Int32) (a3 : Int32) (a4 : Int32) (a5 : Int32) (h : hp_T) : Option ev_O := (dg (decide (hp_k h a0 = some (8, 0))) (db (ev_c .le ((hp_z h a0 9) + (20 : Int32)) (2000 : Int32)) (B_85_19 f  a0 a1 a2 a3 a4 a5 (0 : Int32) a0 h) (B_85_19 f  a0 a1 a2 a3 a4 a5 (1 : Int32) a0 h)))
theorem sF_85 {f : Nat} {a0 : Nat} {a1 : Int32} {a2 : Int32} {a3 : Int32} {a4 : Int32} {a5 : Int32} {h : hp_T} {o : ev_O} (hB : F_85 f a0 a1 a2 a3 a4 a5 h = some o) : rm 85 [.ref a0, .int a1, .int a2, .int a3, .int a4, .int a5] h o := by
  unfold F_85 at hB
  refine rm_in (L := [.ref a0, .int a1, .int a2, .int a3, .int a4, .int a5, .null, .null]) (Nat.le_of_ble_eq_true rfl) rfl ?_
  refine rg_p rfl rfl ?_
  refine rg_p rfl rfl ?_
  obtain ⟨c1, hB⟩ := dg_e hB
  refine rg_gz rfl rfl rfl (of_decide_eq_true c1) ?_
  refine rg_bi (v := (20 : Int32)) rfl (by decide) ?_
  refine rg_p rfl rfl ?_
  show rg 85 8 _ _ _ _
  refine rg_si (v := (2000 : Int32)) rfl (by decide) ?_
  rcases db_e hB with ⟨q2, hB⟩ | ⟨q2, hB⟩
  · refine rg_bt (t := 18) (pc' := 14) rfl rfl q2 ?_
    refine rg_ic (v := (0 : Int32)) rfl (by decide) ?_
    exact sB_85_19 f  _ _ _ _ _ _ _ _ _ _ h _ hB
  · refine rg_bf (t := 18) (pc' := 14) rfl rfl q2 ?_
    refine rg_ic (v := (1 : Int32)) rfl (by decide) ?_
    refine rg_p (pc' := 19) rfl rfl ?_
    exact sB_85_19 f  _ _ _ _ _ _ _ _ _ _ h _ hB
-- 86: RouteHouseModel.end(I)V
def B_86_18 (f : Nat) (l0 : Nat) (l1 : Int32) (s0 : Int32) (s1 : Nat) (h : hp_T) : Option ev_O := (dg (decide (hp_k h s1 = some (8, 0))) (di (F_75 f s1 s0 (1 : Int32) h) fun v5 h2 => (db (ev_c .eq v5 0) (dg (decide (hp_k h2 l0 = some (8, 0))) (dl (wz h2 l0 9 l1) fun h8 => (some (.inl none, h8)))) (some (.inl none, h2)))))
theorem sB_86_18 (f : Nat) (l0 : Nat) (l1 : Int32) (s0 : Int32) (s1 : Nat) (h : hp_T) (o : ev_O) (hB : B_86_18 f l0 l1 s0 s1 h = some o) : rg 86 18 [.ref l0, .int l1] [.int s0, .ref s1] h o := by
  unfold B_86_18 at hB
  refine rg_ic (v := (1 : Int32)) rfl (by decide) ?_
  obtain ⟨c1, hB⟩ := dg_e hB
  rcases di_e hB with ⟨v5, h2, z3, hB⟩ | ⟨q4, h2, z3, hB⟩
  · refine rg_call (rg_v9 (n := 2) (b := s1) (as := [.ref s1, .int s0, .int (1 : Int32)]) (ar := []) rfl rfl rfl (Nat.le_of_ble_eq_true rfl) rfl rfl (Nat.le_of_ble_eq_true rfl) (of_decide_eq_true c1)) (sF_75 z3) ?_
    rcases db_e hB with ⟨q6, hB⟩ | ⟨q6, hB⟩
    · refine rg_bt (t := 26) (pc' := 25) rfl rfl q6 ?_
      refine rg_p rfl rfl ?_
      refine rg_p rfl rfl ?_
      obtain ⟨c7, hB⟩ := dg_e hB
      obtain ⟨h8, e9, hB⟩ := dl_e hB
      refine rg_pi rfl rfl rfl (of_decide_eq_true c7) e9 ?_
      cases hB
      exact rg_rv rfl rfl
    · refine rg_bf (t := 26) (pc' := 25) rfl rfl q6 ?_
      cases hB
      exact rg_rv rfl rfl
  · subst hB
    exact rg_callX (rg_v9 (n := 2) (b := s1) (as := [.ref s1, .int s0, .int (1 : Int32)]) (ar := []) rfl rfl rfl (Nat.le_of_ble_eq_true rfl) rfl rfl (Nat.le_of_ble_eq_true rfl) (of_decide_eq_true c1)) (sF_75 z3)
def B_86_13 (f : Nat) (l0 : Nat) (l1 : Int32) (s0 : Nat) (h : hp_T) : Option ev_O := (B_86_18 f  l0 l1 (1 : Int32) s0 h)
theorem sB_86_13 (f : Nat) (l0 : Nat) (l1 : Int32) (s0 : Nat) (h : hp_T) (o : ev_O) (hB : B_86_13 f l0 l1 s0 h = some o) : rg 86 13 [.ref l0, .int l1] [.ref s0] h o := by
  unfold B_86_13 at hB
  refine rg_ic (v := (1 : Int32)) rfl (by decide) ?_
  refine rg_p (pc' := 18) rfl rfl ?_
  exact sB_86_18 f  _ _ _ _ h _ hB
def F_86 (f : Nat) (a0 : Nat) (a1 : Int32) (h : hp_T) : Option ev_O := (db (ev_c .lt a1 0) (B_86_13 f  a0 a1 a0 h) (dg (decide (hp_k h a0 = some (8, 0))) (db (ev_c .le a1 (hp_z h a0 9)) (B_86_18 f  a0 a1 (0 : Int32) a0 h) (B_86_13 f  a0 a1 a0 h))))
theorem sF_86 {f : Nat} {a0 : Nat} {a1 : Int32} {h : hp_T} {o : ev_O} (hB : F_86 f a0 a1 h = some o) : rm 86 [.ref a0, .int a1] h o := by
  unfold F_86 at hB
  refine rm_in (L := [.ref a0, .int a1]) (Nat.le_of_ble_eq_true rfl) rfl ?_
  refine rg_p rfl rfl ?_
  refine rg_p rfl rfl ?_
  rcases db_e hB with ⟨q1, hB⟩ | ⟨q1, hB⟩
  · refine rg_bt (t := 13) (pc' := 5) rfl rfl q1 ?_
    exact sB_86_13 f  _ _ _ h _ hB
  · refine rg_bf (t := 13) (pc' := 5) rfl rfl q1 ?_
    refine rg_p rfl rfl ?_
    refine rg_p rfl rfl ?_
    obtain ⟨c2, hB⟩ := dg_e hB
    refine rg_gz rfl rfl rfl (of_decide_eq_true c2) ?_
    rcases db_e hB with ⟨q3, hB⟩ | ⟨q3, hB⟩
    · refine rg_bt (t := 17) (pc' := 13) rfl rfl q3 ?_
      refine rg_ic (v := (0 : Int32)) rfl (by decide) ?_
      exact sB_86_18 f  _ _ _ _ h _ hB
    · refine rg_bf (t := 17) (pc' := 13) rfl rfl q3 ?_
      exact sB_86_13 f  _ _ _ h _ hB
-- 87: RouteHouseModel.sumOf([IIII)I
def B_87_57 (f : Nat) (C6 : Nat → Int32 → Int32 → Int32 → Int32 → Int32 → hp_T → Option ev_O) (l0 : Nat) (l1 : Int32) (l2 : Int32) (l3 : Int32) (l5 : Int32) (s0 : Int32) (s1 : Int32) (h : hp_T) : Option ev_O := (C6 l0 l1 l2 l3 (((s1 + s0) &&& (65535 : Int32)) + ((s1 + s0) >>> ((16 : Int32) &&& 31))) (l5 + (1 : Int32)) h)
theorem sB_87_57 (f : Nat) (C6 : Nat → Int32 → Int32 → Int32 → Int32 → Int32 → hp_T → Option ev_O) (hC6 : ∀ (l0 : Nat) (l1 : Int32) (l2 : Int32) (l3 : Int32) (l4 : Int32) (l5 : Int32) (w6 : Value) (h : hp_T) (o : ev_O), C6 l0 l1 l2 l3 l4 l5 h = some o → rg 87 6 [.ref l0, .int l1, .int l2, .int l3, .int l4, .int l5, w6] [] h o) (l0 : Nat) (l1 : Int32) (l2 : Int32) (l3 : Int32) (l5 : Int32) (s0 : Int32) (s1 : Int32) (w4 : Value) (w6 : Value) (h : hp_T) (o : ev_O) (hB : B_87_57 f C6 l0 l1 l2 l3 l5 s0 s1 h = some o) : rg 87 57 [.ref l0, .int l1, .int l2, .int l3, w4, .int l5, w6] [.int s0, .int s1] h o := by
  unfold B_87_57 at hB
  refine rg_p rfl rfl ?_
  refine rg_p (L' := [.ref l0, .int l1, .int l2, .int l3, .int (s1 + s0), .int l5, w6]) rfl rfl ?_
  refine rg_p rfl rfl ?_
  refine rg_ld (v := (65535 : Int32)) rfl rfl ?_
  refine rg_p rfl rfl ?_
  show rg 87 65 _ _ _ _
  refine rg_p rfl rfl ?_
  refine rg_bi (v := (16 : Int32)) rfl (by decide) ?_
  refine rg_p rfl rfl ?_
  refine rg_p rfl rfl ?_
  refine rg_p (L' := [.ref l0, .int l1, .int l2, .int l3, .int (((s1 + s0) &&& (65535 : Int32)) + ((s1 + s0) >>> ((16 : Int32) &&& 31))), .int l5, w6]) rfl rfl ?_
  refine rg_p (L' := [.ref l0, .int l1, .int l2, .int l3, .int (((s1 + s0) &&& (65535 : Int32)) + ((s1 + s0) >>> ((16 : Int32) &&& 31))), .int (l5 + (1 : Int32)), w6]) rfl rfl ?_
  show rg 87 76 _ _ _ _
  refine rg_p (pc' := 6) rfl rfl ?_
  exact hC6 _ _ _ _ _ _ _ h _ hB
def B_87_36 (f : Nat) (C6 : Nat → Int32 → Int32 → Int32 → Int32 → Int32 → hp_T → Option ev_O) (l0 : Nat) (l1 : Int32) (l2 : Int32) (l3 : Int32) (l4 : Int32) (l5 : Int32) (s0 : Int32) (h : hp_T) : Option ev_O := (db (ev_c .ne (l5 - l5 / (2 : Int32) * (2 : Int32)) 0) (B_87_57 f C6 l0 l1 l2 l3 l5 s0 l4 h) (B_87_57 f C6 l0 l1 l2 l3 l5 (s0 <<< ((8 : Int32) &&& 31)) l4 h))
theorem sB_87_36 (f : Nat) (C6 : Nat → Int32 → Int32 → Int32 → Int32 → Int32 → hp_T → Option ev_O) (hC6 : ∀ (l0 : Nat) (l1 : Int32) (l2 : Int32) (l3 : Int32) (l4 : Int32) (l5 : Int32) (w6 : Value) (h : hp_T) (o : ev_O), C6 l0 l1 l2 l3 l4 l5 h = some o → rg 87 6 [.ref l0, .int l1, .int l2, .int l3, .int l4, .int l5, w6] [] h o) (l0 : Nat) (l1 : Int32) (l2 : Int32) (l3 : Int32) (l4 : Int32) (l5 : Int32) (s0 : Int32) (w6 : Value) (h : hp_T) (o : ev_O) (hB : B_87_36 f C6 l0 l1 l2 l3 l4 l5 s0 h = some o) : rg 87 36 [.ref l0, .int l1, .int l2, .int l3, .int l4, .int l5, w6] [.int s0] h o := by
  unfold B_87_36 at hB
  refine rg_p (L' := [.ref l0, .int l1, .int l2, .int l3, .int l4, .int l5, .int s0]) rfl rfl ?_
  refine rg_p rfl rfl ?_
  refine rg_p rfl rfl ?_
  refine rg_ic (v := (2 : Int32)) rfl (by decide) ?_
  refine rg_rm rfl (by decide) ?_
  show rg 87 44 _ _ _ _
  rcases db_e hB with ⟨q1, hB⟩ | ⟨q1, hB⟩
  · refine rg_bt (t := 55) (pc' := 47) rfl rfl q1 ?_
    refine rg_p rfl rfl ?_
    exact sB_87_57 f C6 hC6 _ _ _ _ _ _ _ _ _ h _ hB
  · refine rg_bf (t := 55) (pc' := 47) rfl rfl q1 ?_
    refine rg_p rfl rfl ?_
    refine rg_bi (v := (8 : Int32)) rfl (by decide) ?_
    refine rg_p rfl rfl ?_
    refine rg_p (pc' := 57) rfl rfl ?_
    exact sB_87_57 f C6 hC6 _ _ _ _ _ _ _ _ _ h _ hB
def B_87_26 (f : Nat) (C6 : Nat → Int32 → Int32 → Int32 → Int32 → Int32 → hp_T → Option ev_O) (l0 : Nat) (l1 : Int32) (l2 : Int32) (l3 : Int32) (l4 : Int32) (l5 : Int32) (h : hp_T) : Option ev_O := (B_87_36 f C6 l0 l1 l2 l3 l4 l5 (0 : Int32) h)
theorem sB_87_26 (f : Nat) (C6 : Nat → Int32 → Int32 → Int32 → Int32 → Int32 → hp_T → Option ev_O) (hC6 : ∀ (l0 : Nat) (l1 : Int32) (l2 : Int32) (l3 : Int32) (l4 : Int32) (l5 : Int32) (w6 : Value) (h : hp_T) (o : ev_O), C6 l0 l1 l2 l3 l4 l5 h = some o → rg 87 6 [.ref l0, .int l1, .int l2, .int l3, .int l4, .int l5, w6] [] h o) (l0 : Nat) (l1 : Int32) (l2 : Int32) (l3 : Int32) (l4 : Int32) (l5 : Int32) (w6 : Value) (h : hp_T) (o : ev_O) (hB : B_87_26 f C6 l0 l1 l2 l3 l4 l5 h = some o) : rg 87 26 [.ref l0, .int l1, .int l2, .int l3, .int l4, .int l5, w6] [] h o := by
  unfold B_87_26 at hB
  refine rg_ic (v := (0 : Int32)) rfl (by decide) ?_
  refine rg_p (pc' := 36) rfl rfl ?_
  exact sB_87_36 f C6 hC6 _ _ _ _ _ _ _ _ h _ hB
def B_87_6 (f : Nat) : Nat → Nat → Int32 → Int32 → Int32 → Int32 → Int32 → hp_T → Option ev_O
  | 0, _, _, _, _, _, _, _ => none
  | g + 1, l0, l1, l2, l3, l4, l5, h => (db (ev_c .ge l5 l2) (some (.inl (some (.int ((l4 ^^^ (-1 : Int32)) &&& (65535 : Int32)))), h)) (db (ev_c .eq l5 l3) (B_87_26 f (B_87_6 f g) l0 l1 l2 l3 l4 l5 h) (db (ev_c .ne l5 (l3 + (1 : Int32))) (dg (aib 64 h l0 (l1 + l5)) (B_87_36 f (B_87_6 f g) l0 l1 l2 l3 l4 l5 (hp_z h l0 (Int32.toNatClampNeg (l1 + l5))) h)) (B_87_26 f (B_87_6 f g) l0 l1 l2 l3 l4 l5 h))))
theorem sB_87_6 (f : Nat) : ∀ (g : Nat) (l0 : Nat) (l1 : Int32) (l2 : Int32) (l3 : Int32) (l4 : Int32) (l5 : Int32) (w6 : Value) (h : hp_T) (o : ev_O), B_87_6 f g l0 l1 l2 l3 l4 l5 h = some o → rg 87 6 [.ref l0, .int l1, .int l2, .int l3, .int l4, .int l5, w6] [] h o := by
  intro g
  induction g with
  | zero =>
    intro l0 l1 l2 l3 l4 l5 w6 h o hB
    rw [B_87_6] at hB
    cases hB
  | succ g ih =>
    intro l0 l1 l2 l3 l4 l5 w6 h o hB
    rw [B_87_6] at hB
    refine rg_p rfl rfl ?_
    refine rg_p rfl rfl ?_
    rcases db_e hB with ⟨q1, hB⟩ | ⟨q1, hB⟩
    · refine rg_bt (t := 79) (pc' := 12) rfl rfl q1 ?_
      refine rg_p rfl rfl ?_
      refine rg_ic (v := (-1 : Int32)) rfl (by decide) ?_
      refine rg_p rfl rfl ?_
      refine rg_ld (v := (65535 : Int32)) rfl rfl ?_
      refine rg_p rfl rfl ?_
      show rg 87 86 _ _ _ _
      cases hB
      exact rg_ri rfl rfl rfl
    · refine rg_bf (t := 79) (pc' := 12) rfl rfl q1 ?_
      refine rg_p rfl rfl ?_
      refine rg_p rfl rfl ?_
      rcases db_e hB with ⟨q2, hB⟩ | ⟨q2, hB⟩
      · refine rg_bt (t := 26) (pc' := 18) rfl rfl q2 ?_
        exact sB_87_26 f (B_87_6 f g) ih _ _ _ _ _ _ _ h _ hB
      · refine rg_bf (t := 26) (pc' := 18) rfl rfl q2 ?_
        refine rg_p rfl rfl ?_
        refine rg_p rfl rfl ?_
        refine rg_ic (v := (1 : Int32)) rfl (by decide) ?_
        refine rg_p rfl rfl ?_
        rcases db_e hB with ⟨q3, hB⟩ | ⟨q3, hB⟩
        · refine rg_bt (t := 30) (pc' := 26) rfl rfl q3 ?_
          refine rg_p rfl rfl ?_
          refine rg_p rfl rfl ?_
          refine rg_p rfl rfl ?_
          refine rg_p rfl rfl ?_
          obtain ⟨c4, hB⟩ := dg_e hB
          refine rg_ia rfl (ai_of c4) ?_
          exact sB_87_36 f (B_87_6 f g) ih _ _ _ _ _ _ _ _ h _ hB
        · refine rg_bf (t := 30) (pc' := 26) rfl rfl q3 ?_
          exact sB_87_26 f (B_87_6 f g) ih _ _ _ _ _ _ _ h _ hB
def F_87 (f : Nat) (a0 : Nat) (a1 : Int32) (a2 : Int32) (a3 : Int32) (h : hp_T) : Option ev_O := (B_87_6 f  f a0 a1 a2 a3 (0 : Int32) (0 : Int32) h)
theorem sF_87 {f : Nat} {a0 : Nat} {a1 : Int32} {a2 : Int32} {a3 : Int32} {h : hp_T} {o : ev_O} (hB : F_87 f a0 a1 a2 a3 h = some o) : rm 87 [.ref a0, .int a1, .int a2, .int a3] h o := by
  unfold F_87 at hB
  refine rm_in (L := [.ref a0, .int a1, .int a2, .int a3, .null, .null, .null]) (Nat.le_of_ble_eq_true rfl) rfl ?_
  refine rg_ic (v := (0 : Int32)) rfl (by decide) ?_
  refine rg_p (L' := [.ref a0, .int a1, .int a2, .int a3, .int (0 : Int32), .null, .null]) rfl rfl ?_
  refine rg_ic (v := (0 : Int32)) rfl (by decide) ?_
  refine rg_p (L' := [.ref a0, .int a1, .int a2, .int a3, .int (0 : Int32), .int (0 : Int32), .null]) rfl rfl ?_
  exact sB_87_6 f  f _ _ _ _ _ _ _ h _ hB
