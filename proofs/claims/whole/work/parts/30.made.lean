-- the heap behind the two constructors
def hx_g (x : Option ev_O) : hp_T := match x with
  | some (_, h) => h
  | none => hp_0
def hx_C : hp_T := hx_g (F_46 10 0 (hp_new hp_0 7 0 11))
def hx_M : hp_T := hx_g (F_73 10 52 (hp_new hx_C 8 0 43))
def hx_v (x : Option ev_O) : Bool := match x with
  | some (.inl none, _) => true
  | _ => false
theorem hx_o {x : Option ev_O} (hv : hx_v x = true) : x = some (.inl none, hx_g x) := by
  unfold hx_v at hv
  split at hv
  · rfl
  · cases hv
theorem hx_C1 : hx_v (F_46 10 0 (hp_new hp_0 7 0 11)) = true := by decide +kernel
theorem hx_M1 : hx_v (F_73 10 52 (hp_new hx_C 8 0 43)) = true := by decide +kernel
theorem hx_C2 : F_46 10 0 (hp_new hp_0 7 0 11) = some (.inl none, hx_C) := by unfold hx_C; exact hx_o hx_C1
theorem hx_M2 : F_73 10 52 (hp_new hx_C 8 0 43) = some (.inl none, hx_M) := by unfold hx_M; exact hx_o hx_M1
theorem hx_len : hx_C.1.length = 52 := by decide +kernel
theorem hx_I {J : hp_T → Prop} (hj : J hx_M) : li_I J := ⟨hx_C, hx_M, rm_pr (sF_46 hx_C2), hx_len, rm_pr (sF_73 hx_M2), hj⟩
def K0 : List (Nat × Nat) := [(7, 0), (103, 8), (3, 0), (3, 0), (3, 0), (3, 0), (3, 0), (3, 0), (3, 0), (3, 0), (4, 0), (64, 400), (64, 400), (64, 400), (64, 400), (2, 0), (65, 2000), (2, 0), (65, 4060), (2, 0), (65, 4020), (1, 0), (65, 5000), (64, 50), (64, 50), (64, 50), (64, 50), (65, 60), (6, 0), (105, 4), (5, 0), (2, 0), (65, 68), (65, 4000), (66, 500), (5, 0), (2, 0), (65, 68), (65, 4000), (66, 500), (5, 0), (2, 0), (65, 68), (65, 4000), (66, 500), (5, 0), (2, 0), (65, 68), (65, 4000), (66, 500), (0, 0), (65, 4000), (8, 0), (64, 8), (64, 8), (66, 8), (64, 400), (64, 400), (64, 400), (64, 400), (64, 2000), (64, 4100), (64, 4200), (64, 24000), (64, 300), (64, 300), (64, 300), (64, 300), (64, 4000), (64, 4), (64, 4), (64, 4), (64, 4), (64, 4), (64, 4), (64, 4), (64, 240), (64, 32), (64, 4), (64, 4), (64, 16000), (66, 16000)]
theorem hx_K : hx_M.1 = K0 := by decide +kernel
def P0 : Nat → Nat → Option Nat := hp_p hx_M
theorem hx_cs : hp_c hx_M = 82 ∧ hp_s hx_M = 112820 := by decide +kernel
-- the heap in between calls: kinds stay, references stay but in the array 29
def hq (z : Nat → Nat → Int32) (w : Nat → Option Nat) (c s : Nat) : hp_T := (K0, z, va_up P0 29 w, c, s)
theorem va_up2 {α : Type} (f : Nat → α) (i : Nat) (x y : α) : va_up (va_up f i x) i y = va_up f i y := by
  funext j
  by_cases e : j = i
  · subst e; rw [va_up_self, va_up_self]
  · rw [va_up_ne _ _ e, va_up_ne _ _ e, va_up_ne _ _ e]
theorem va_upi {α : Type} (f : Nat → α) (i : Nat) : va_up f i (f i) = f := by
  funext j
  by_cases e : j = i
  · subst e; rw [va_up_self]
  · rw [va_up_ne _ _ e]
section Hq
variable {z : Nat → Nat → Int32} {w : Nat → Option Nat} {c s : Nat}
theorem hq_z : hp_z (hq z w c s) = z := Eq.trans rfl rfl
theorem hq_1 : (hq z w c s).1 = K0 := Eq.trans rfl rfl
theorem hq_c : hp_c (hq z w c s) = c := Eq.trans rfl rfl
theorem hq_s : hp_s (hq z w c s) = s := Eq.trans rfl rfl
theorem hq_wz (a k : Nat) (v : Int32) : wz (hq z w c s) a k v = hq (va_up z a (upd (z a) k v)) w c s := Eq.trans rfl rfl
theorem hq_wc (a : Nat) (u : Int32) (b : Nat) (w9 v : Int32) : wc (hq z w c s) a u b w9 v = hq (va_up z b (va_cpy (z a) (z b) u.toNatClampNeg w9.toNatClampNeg v.toNatClampNeg)) w c s := Eq.trans rfl rfl
theorem hq_thr : hp_thr (hq z w c s) = hq z w (c + 1) (s + 6) := Eq.trans rfl rfl
theorem hq_p29 (k : Nat) : hp_p (hq z w c s) 29 k = w k := by show va_up P0 29 w 29 k = w k; rw [va_up_self]
theorem hq_pw (k : Nat) (v : Option Nat) : hp_pw (hq z w c s) 29 k v = hq z (va_up w k v) c s := by
  show (K0, z, va_up (va_up P0 29 w) 29 (va_up (va_up P0 29 w 29) k v), c, s) = (K0, z, va_up P0 29 (va_up w k v), c, s)
  rw [va_up2, va_up_self]
theorem kq_0 : hp_k (hq z w c s) 0 = some (7, 0) := Eq.trans rfl rfl
theorem kq_1 : hp_k (hq z w c s) 1 = some (103, 8) := Eq.trans rfl rfl
theorem kq_2 : hp_k (hq z w c s) 2 = some (3, 0) := Eq.trans rfl rfl
theorem kq_3 : hp_k (hq z w c s) 3 = some (3, 0) := Eq.trans rfl rfl
theorem kq_4 : hp_k (hq z w c s) 4 = some (3, 0) := Eq.trans rfl rfl
theorem kq_5 : hp_k (hq z w c s) 5 = some (3, 0) := Eq.trans rfl rfl
theorem kq_6 : hp_k (hq z w c s) 6 = some (3, 0) := Eq.trans rfl rfl
theorem kq_7 : hp_k (hq z w c s) 7 = some (3, 0) := Eq.trans rfl rfl
theorem kq_8 : hp_k (hq z w c s) 8 = some (3, 0) := Eq.trans rfl rfl
theorem kq_9 : hp_k (hq z w c s) 9 = some (3, 0) := Eq.trans rfl rfl
theorem kq_10 : hp_k (hq z w c s) 10 = some (4, 0) := Eq.trans rfl rfl
theorem kq_11 : hp_k (hq z w c s) 11 = some (64, 400) := Eq.trans rfl rfl
theorem kq_12 : hp_k (hq z w c s) 12 = some (64, 400) := Eq.trans rfl rfl
theorem kq_13 : hp_k (hq z w c s) 13 = some (64, 400) := Eq.trans rfl rfl
theorem kq_14 : hp_k (hq z w c s) 14 = some (64, 400) := Eq.trans rfl rfl
theorem kq_15 : hp_k (hq z w c s) 15 = some (2, 0) := Eq.trans rfl rfl
theorem kq_16 : hp_k (hq z w c s) 16 = some (65, 2000) := Eq.trans rfl rfl
theorem kq_17 : hp_k (hq z w c s) 17 = some (2, 0) := Eq.trans rfl rfl
theorem kq_18 : hp_k (hq z w c s) 18 = some (65, 4060) := Eq.trans rfl rfl
theorem kq_19 : hp_k (hq z w c s) 19 = some (2, 0) := Eq.trans rfl rfl
theorem kq_20 : hp_k (hq z w c s) 20 = some (65, 4020) := Eq.trans rfl rfl
theorem kq_21 : hp_k (hq z w c s) 21 = some (1, 0) := Eq.trans rfl rfl
theorem kq_22 : hp_k (hq z w c s) 22 = some (65, 5000) := Eq.trans rfl rfl
theorem kq_23 : hp_k (hq z w c s) 23 = some (64, 50) := Eq.trans rfl rfl
theorem kq_24 : hp_k (hq z w c s) 24 = some (64, 50) := Eq.trans rfl rfl
theorem kq_25 : hp_k (hq z w c s) 25 = some (64, 50) := Eq.trans rfl rfl
theorem kq_26 : hp_k (hq z w c s) 26 = some (64, 50) := Eq.trans rfl rfl
theorem kq_27 : hp_k (hq z w c s) 27 = some (65, 60) := Eq.trans rfl rfl
theorem kq_28 : hp_k (hq z w c s) 28 = some (6, 0) := Eq.trans rfl rfl
theorem kq_29 : hp_k (hq z w c s) 29 = some (105, 4) := Eq.trans rfl rfl
theorem kq_30 : hp_k (hq z w c s) 30 = some (5, 0) := Eq.trans rfl rfl
theorem kq_31 : hp_k (hq z w c s) 31 = some (2, 0) := Eq.trans rfl rfl
theorem kq_32 : hp_k (hq z w c s) 32 = some (65, 68) := Eq.trans rfl rfl
theorem kq_33 : hp_k (hq z w c s) 33 = some (65, 4000) := Eq.trans rfl rfl
theorem kq_34 : hp_k (hq z w c s) 34 = some (66, 500) := Eq.trans rfl rfl
theorem kq_35 : hp_k (hq z w c s) 35 = some (5, 0) := Eq.trans rfl rfl
theorem kq_36 : hp_k (hq z w c s) 36 = some (2, 0) := Eq.trans rfl rfl
theorem kq_37 : hp_k (hq z w c s) 37 = some (65, 68) := Eq.trans rfl rfl
theorem kq_38 : hp_k (hq z w c s) 38 = some (65, 4000) := Eq.trans rfl rfl
theorem kq_39 : hp_k (hq z w c s) 39 = some (66, 500) := Eq.trans rfl rfl
theorem kq_40 : hp_k (hq z w c s) 40 = some (5, 0) := Eq.trans rfl rfl
theorem kq_41 : hp_k (hq z w c s) 41 = some (2, 0) := Eq.trans rfl rfl
theorem kq_42 : hp_k (hq z w c s) 42 = some (65, 68) := Eq.trans rfl rfl
theorem kq_43 : hp_k (hq z w c s) 43 = some (65, 4000) := Eq.trans rfl rfl
theorem kq_44 : hp_k (hq z w c s) 44 = some (66, 500) := Eq.trans rfl rfl
theorem kq_45 : hp_k (hq z w c s) 45 = some (5, 0) := Eq.trans rfl rfl
theorem kq_46 : hp_k (hq z w c s) 46 = some (2, 0) := Eq.trans rfl rfl
theorem kq_47 : hp_k (hq z w c s) 47 = some (65, 68) := Eq.trans rfl rfl
theorem kq_48 : hp_k (hq z w c s) 48 = some (65, 4000) := Eq.trans rfl rfl
theorem kq_49 : hp_k (hq z w c s) 49 = some (66, 500) := Eq.trans rfl rfl
theorem kq_50 : hp_k (hq z w c s) 50 = some (0, 0) := Eq.trans rfl rfl
theorem kq_51 : hp_k (hq z w c s) 51 = some (65, 4000) := Eq.trans rfl rfl
theorem kq_52 : hp_k (hq z w c s) 52 = some (8, 0) := Eq.trans rfl rfl
theorem kq_53 : hp_k (hq z w c s) 53 = some (64, 8) := Eq.trans rfl rfl
theorem kq_54 : hp_k (hq z w c s) 54 = some (64, 8) := Eq.trans rfl rfl
theorem kq_55 : hp_k (hq z w c s) 55 = some (66, 8) := Eq.trans rfl rfl
theorem kq_56 : hp_k (hq z w c s) 56 = some (64, 400) := Eq.trans rfl rfl
theorem kq_57 : hp_k (hq z w c s) 57 = some (64, 400) := Eq.trans rfl rfl
theorem kq_58 : hp_k (hq z w c s) 58 = some (64, 400) := Eq.trans rfl rfl
theorem kq_59 : hp_k (hq z w c s) 59 = some (64, 400) := Eq.trans rfl rfl
theorem kq_60 : hp_k (hq z w c s) 60 = some (64, 2000) := Eq.trans rfl rfl
theorem kq_61 : hp_k (hq z w c s) 61 = some (64, 4100) := Eq.trans rfl rfl
theorem kq_62 : hp_k (hq z w c s) 62 = some (64, 4200) := Eq.trans rfl rfl
theorem kq_63 : hp_k (hq z w c s) 63 = some (64, 24000) := Eq.trans rfl rfl
theorem kq_64 : hp_k (hq z w c s) 64 = some (64, 300) := Eq.trans rfl rfl
theorem kq_65 : hp_k (hq z w c s) 65 = some (64, 300) := Eq.trans rfl rfl
theorem kq_66 : hp_k (hq z w c s) 66 = some (64, 300) := Eq.trans rfl rfl
theorem kq_67 : hp_k (hq z w c s) 67 = some (64, 300) := Eq.trans rfl rfl
theorem kq_68 : hp_k (hq z w c s) 68 = some (64, 4000) := Eq.trans rfl rfl
theorem kq_69 : hp_k (hq z w c s) 69 = some (64, 4) := Eq.trans rfl rfl
theorem kq_70 : hp_k (hq z w c s) 70 = some (64, 4) := Eq.trans rfl rfl
theorem kq_71 : hp_k (hq z w c s) 71 = some (64, 4) := Eq.trans rfl rfl
theorem kq_72 : hp_k (hq z w c s) 72 = some (64, 4) := Eq.trans rfl rfl
theorem kq_73 : hp_k (hq z w c s) 73 = some (64, 4) := Eq.trans rfl rfl
theorem kq_74 : hp_k (hq z w c s) 74 = some (64, 4) := Eq.trans rfl rfl
theorem kq_75 : hp_k (hq z w c s) 75 = some (64, 4) := Eq.trans rfl rfl
theorem kq_76 : hp_k (hq z w c s) 76 = some (64, 240) := Eq.trans rfl rfl
theorem kq_77 : hp_k (hq z w c s) 77 = some (64, 32) := Eq.trans rfl rfl
theorem kq_78 : hp_k (hq z w c s) 78 = some (64, 4) := Eq.trans rfl rfl
theorem kq_79 : hp_k (hq z w c s) 79 = some (64, 4) := Eq.trans rfl rfl
theorem kq_80 : hp_k (hq z w c s) 80 = some (64, 16000) := Eq.trans rfl rfl
theorem kq_81 : hp_k (hq z w c s) 81 = some (66, 16000) := Eq.trans rfl rfl
def tblP : List (Nat × Nat × Nat) := [(0, 0, 1), (0, 1, 10), (0, 2, 15), (0, 3, 17), (0, 4, 19), (0, 5, 21), (0, 6, 28), (0, 7, 50), (1, 0, 2), (1, 1, 3), (1, 2, 4), (1, 3, 5), (1, 4, 6), (1, 5, 7), (1, 6, 8), (1, 7, 9), (10, 0, 11), (10, 1, 12), (10, 2, 13), (10, 3, 14), (15, 0, 16), (17, 0, 18), (19, 0, 20), (21, 0, 22), (21, 1, 23), (21, 2, 24), (21, 3, 25), (21, 4, 26), (21, 5, 27), (28, 0, 29), (29, 0, 30), (29, 1, 35), (29, 2, 40), (29, 3, 45), (30, 0, 31), (30, 1, 33), (30, 2, 34), (31, 0, 32), (35, 0, 36), (35, 1, 38), (35, 2, 39), (36, 0, 37), (40, 0, 41), (40, 1, 43), (40, 2, 44), (41, 0, 42), (45, 0, 46), (45, 1, 48), (45, 2, 49), (46, 0, 47), (50, 0, 51), (52, 0, 53), (52, 1, 54), (52, 2, 55), (52, 3, 56), (52, 4, 57), (52, 5, 58), (52, 6, 59), (52, 8, 60), (52, 10, 61), (52, 11, 62), (52, 14, 63), (52, 15, 64), (52, 16, 65), (52, 17, 66), (52, 18, 67), (52, 27, 68), (52, 29, 69), (52, 30, 70), (52, 31, 71), (52, 32, 72), (52, 33, 73), (52, 34, 74), (52, 35, 75), (52, 36, 76), (52, 37, 77), (52, 38, 78), (52, 39, 79), (52, 40, 80), (52, 41, 81)]
theorem tP : tblP.all (fun q => decide (P0 q.1 q.2.1 = some q.2.2)) = true := by decide +kernel
theorem tP_g (f : Nat → Nat → Option Nat) (t : List (Nat × Nat × Nat)) (ht : t.all (fun q => decide (f q.1 q.2.1 = some q.2.2)) = true) {n i k r : Nat} (h : t[n]? = some (i, k, r)) : f i k = some r := by
  have h1 := List.all_eq_true.mp ht _ (List.mem_of_getElem? h)
  exact of_decide_eq_true h1
theorem tP_at {n i k r : Nat} (h : tblP[n]? = some (i, k, r)) : P0 i k = some r := tP_g P0 tblP tP h
theorem P0_0_0 : P0 0 0 = some 1 := tP_at (n := 0) rfl
theorem P0_0_1 : P0 0 1 = some 10 := tP_at (n := 1) rfl
theorem P0_0_2 : P0 0 2 = some 15 := tP_at (n := 2) rfl
theorem P0_0_3 : P0 0 3 = some 17 := tP_at (n := 3) rfl
theorem P0_0_4 : P0 0 4 = some 19 := tP_at (n := 4) rfl
theorem P0_0_5 : P0 0 5 = some 21 := tP_at (n := 5) rfl
theorem P0_0_6 : P0 0 6 = some 28 := tP_at (n := 6) rfl
theorem P0_0_7 : P0 0 7 = some 50 := tP_at (n := 7) rfl
theorem P0_1_0 : P0 1 0 = some 2 := tP_at (n := 8) rfl
theorem P0_1_1 : P0 1 1 = some 3 := tP_at (n := 9) rfl
theorem P0_1_2 : P0 1 2 = some 4 := tP_at (n := 10) rfl
theorem P0_1_3 : P0 1 3 = some 5 := tP_at (n := 11) rfl
theorem P0_1_4 : P0 1 4 = some 6 := tP_at (n := 12) rfl
theorem P0_1_5 : P0 1 5 = some 7 := tP_at (n := 13) rfl
theorem P0_1_6 : P0 1 6 = some 8 := tP_at (n := 14) rfl
theorem P0_1_7 : P0 1 7 = some 9 := tP_at (n := 15) rfl
theorem P0_10_0 : P0 10 0 = some 11 := tP_at (n := 16) rfl
theorem P0_10_1 : P0 10 1 = some 12 := tP_at (n := 17) rfl
theorem P0_10_2 : P0 10 2 = some 13 := tP_at (n := 18) rfl
theorem P0_10_3 : P0 10 3 = some 14 := tP_at (n := 19) rfl
theorem P0_15_0 : P0 15 0 = some 16 := tP_at (n := 20) rfl
theorem P0_17_0 : P0 17 0 = some 18 := tP_at (n := 21) rfl
theorem P0_19_0 : P0 19 0 = some 20 := tP_at (n := 22) rfl
theorem P0_21_0 : P0 21 0 = some 22 := tP_at (n := 23) rfl
theorem P0_21_1 : P0 21 1 = some 23 := tP_at (n := 24) rfl
theorem P0_21_2 : P0 21 2 = some 24 := tP_at (n := 25) rfl
theorem P0_21_3 : P0 21 3 = some 25 := tP_at (n := 26) rfl
theorem P0_21_4 : P0 21 4 = some 26 := tP_at (n := 27) rfl
theorem P0_21_5 : P0 21 5 = some 27 := tP_at (n := 28) rfl
theorem P0_28_0 : P0 28 0 = some 29 := tP_at (n := 29) rfl
theorem P0_29_0 : P0 29 0 = some 30 := tP_at (n := 30) rfl
theorem P0_29_1 : P0 29 1 = some 35 := tP_at (n := 31) rfl
theorem P0_29_2 : P0 29 2 = some 40 := tP_at (n := 32) rfl
theorem P0_29_3 : P0 29 3 = some 45 := tP_at (n := 33) rfl
theorem P0_30_0 : P0 30 0 = some 31 := tP_at (n := 34) rfl
theorem P0_30_1 : P0 30 1 = some 33 := tP_at (n := 35) rfl
theorem P0_30_2 : P0 30 2 = some 34 := tP_at (n := 36) rfl
theorem P0_31_0 : P0 31 0 = some 32 := tP_at (n := 37) rfl
theorem P0_35_0 : P0 35 0 = some 36 := tP_at (n := 38) rfl
theorem P0_35_1 : P0 35 1 = some 38 := tP_at (n := 39) rfl
theorem P0_35_2 : P0 35 2 = some 39 := tP_at (n := 40) rfl
theorem P0_36_0 : P0 36 0 = some 37 := tP_at (n := 41) rfl
theorem P0_40_0 : P0 40 0 = some 41 := tP_at (n := 42) rfl
theorem P0_40_1 : P0 40 1 = some 43 := tP_at (n := 43) rfl
theorem P0_40_2 : P0 40 2 = some 44 := tP_at (n := 44) rfl
theorem P0_41_0 : P0 41 0 = some 42 := tP_at (n := 45) rfl
theorem P0_45_0 : P0 45 0 = some 46 := tP_at (n := 46) rfl
theorem P0_45_1 : P0 45 1 = some 48 := tP_at (n := 47) rfl
theorem P0_45_2 : P0 45 2 = some 49 := tP_at (n := 48) rfl
theorem P0_46_0 : P0 46 0 = some 47 := tP_at (n := 49) rfl
theorem P0_50_0 : P0 50 0 = some 51 := tP_at (n := 50) rfl
theorem P0_52_0 : P0 52 0 = some 53 := tP_at (n := 51) rfl
theorem P0_52_1 : P0 52 1 = some 54 := tP_at (n := 52) rfl
theorem P0_52_2 : P0 52 2 = some 55 := tP_at (n := 53) rfl
theorem P0_52_3 : P0 52 3 = some 56 := tP_at (n := 54) rfl
theorem P0_52_4 : P0 52 4 = some 57 := tP_at (n := 55) rfl
theorem P0_52_5 : P0 52 5 = some 58 := tP_at (n := 56) rfl
theorem P0_52_6 : P0 52 6 = some 59 := tP_at (n := 57) rfl
theorem P0_52_8 : P0 52 8 = some 60 := tP_at (n := 58) rfl
theorem P0_52_10 : P0 52 10 = some 61 := tP_at (n := 59) rfl
theorem P0_52_11 : P0 52 11 = some 62 := tP_at (n := 60) rfl
theorem P0_52_14 : P0 52 14 = some 63 := tP_at (n := 61) rfl
theorem P0_52_15 : P0 52 15 = some 64 := tP_at (n := 62) rfl
theorem P0_52_16 : P0 52 16 = some 65 := tP_at (n := 63) rfl
theorem P0_52_17 : P0 52 17 = some 66 := tP_at (n := 64) rfl
theorem P0_52_18 : P0 52 18 = some 67 := tP_at (n := 65) rfl
theorem P0_52_27 : P0 52 27 = some 68 := tP_at (n := 66) rfl
theorem P0_52_29 : P0 52 29 = some 69 := tP_at (n := 67) rfl
theorem P0_52_30 : P0 52 30 = some 70 := tP_at (n := 68) rfl
theorem P0_52_31 : P0 52 31 = some 71 := tP_at (n := 69) rfl
theorem P0_52_32 : P0 52 32 = some 72 := tP_at (n := 70) rfl
theorem P0_52_33 : P0 52 33 = some 73 := tP_at (n := 71) rfl
theorem P0_52_34 : P0 52 34 = some 74 := tP_at (n := 72) rfl
theorem P0_52_35 : P0 52 35 = some 75 := tP_at (n := 73) rfl
theorem P0_52_36 : P0 52 36 = some 76 := tP_at (n := 74) rfl
theorem P0_52_37 : P0 52 37 = some 77 := tP_at (n := 75) rfl
theorem P0_52_38 : P0 52 38 = some 78 := tP_at (n := 76) rfl
theorem P0_52_39 : P0 52 39 = some 79 := tP_at (n := 77) rfl
theorem P0_52_40 : P0 52 40 = some 80 := tP_at (n := 78) rfl
theorem P0_52_41 : P0 52 41 = some 81 := tP_at (n := 79) rfl
theorem hq_pn (a k : Nat) (ha : a ≠ 29) : hp_p (hq z w c s) a k = P0 a k := by show va_up P0 29 w a k = P0 a k; rw [va_up_ne _ _ ha]
theorem pq_0_0 : hp_p (hq z w c s) 0 0 = some 1 := (hq_pn 0 0 (by decide)).trans P0_0_0
theorem pq_0_1 : hp_p (hq z w c s) 0 1 = some 10 := (hq_pn 0 1 (by decide)).trans P0_0_1
theorem pq_0_2 : hp_p (hq z w c s) 0 2 = some 15 := (hq_pn 0 2 (by decide)).trans P0_0_2
theorem pq_0_3 : hp_p (hq z w c s) 0 3 = some 17 := (hq_pn 0 3 (by decide)).trans P0_0_3
theorem pq_0_4 : hp_p (hq z w c s) 0 4 = some 19 := (hq_pn 0 4 (by decide)).trans P0_0_4
theorem pq_0_5 : hp_p (hq z w c s) 0 5 = some 21 := (hq_pn 0 5 (by decide)).trans P0_0_5
theorem pq_0_6 : hp_p (hq z w c s) 0 6 = some 28 := (hq_pn 0 6 (by decide)).trans P0_0_6
theorem pq_0_7 : hp_p (hq z w c s) 0 7 = some 50 := (hq_pn 0 7 (by decide)).trans P0_0_7
theorem pq_1_0 : hp_p (hq z w c s) 1 0 = some 2 := (hq_pn 1 0 (by decide)).trans P0_1_0
theorem pq_1_1 : hp_p (hq z w c s) 1 1 = some 3 := (hq_pn 1 1 (by decide)).trans P0_1_1
theorem pq_1_2 : hp_p (hq z w c s) 1 2 = some 4 := (hq_pn 1 2 (by decide)).trans P0_1_2
theorem pq_1_3 : hp_p (hq z w c s) 1 3 = some 5 := (hq_pn 1 3 (by decide)).trans P0_1_3
theorem pq_1_4 : hp_p (hq z w c s) 1 4 = some 6 := (hq_pn 1 4 (by decide)).trans P0_1_4
theorem pq_1_5 : hp_p (hq z w c s) 1 5 = some 7 := (hq_pn 1 5 (by decide)).trans P0_1_5
theorem pq_1_6 : hp_p (hq z w c s) 1 6 = some 8 := (hq_pn 1 6 (by decide)).trans P0_1_6
theorem pq_1_7 : hp_p (hq z w c s) 1 7 = some 9 := (hq_pn 1 7 (by decide)).trans P0_1_7
theorem pq_10_0 : hp_p (hq z w c s) 10 0 = some 11 := (hq_pn 10 0 (by decide)).trans P0_10_0
theorem pq_10_1 : hp_p (hq z w c s) 10 1 = some 12 := (hq_pn 10 1 (by decide)).trans P0_10_1
theorem pq_10_2 : hp_p (hq z w c s) 10 2 = some 13 := (hq_pn 10 2 (by decide)).trans P0_10_2
theorem pq_10_3 : hp_p (hq z w c s) 10 3 = some 14 := (hq_pn 10 3 (by decide)).trans P0_10_3
theorem pq_15_0 : hp_p (hq z w c s) 15 0 = some 16 := (hq_pn 15 0 (by decide)).trans P0_15_0
theorem pq_17_0 : hp_p (hq z w c s) 17 0 = some 18 := (hq_pn 17 0 (by decide)).trans P0_17_0
theorem pq_19_0 : hp_p (hq z w c s) 19 0 = some 20 := (hq_pn 19 0 (by decide)).trans P0_19_0
theorem pq_21_0 : hp_p (hq z w c s) 21 0 = some 22 := (hq_pn 21 0 (by decide)).trans P0_21_0
theorem pq_21_1 : hp_p (hq z w c s) 21 1 = some 23 := (hq_pn 21 1 (by decide)).trans P0_21_1
theorem pq_21_2 : hp_p (hq z w c s) 21 2 = some 24 := (hq_pn 21 2 (by decide)).trans P0_21_2
theorem pq_21_3 : hp_p (hq z w c s) 21 3 = some 25 := (hq_pn 21 3 (by decide)).trans P0_21_3
theorem pq_21_4 : hp_p (hq z w c s) 21 4 = some 26 := (hq_pn 21 4 (by decide)).trans P0_21_4
theorem pq_21_5 : hp_p (hq z w c s) 21 5 = some 27 := (hq_pn 21 5 (by decide)).trans P0_21_5
theorem pq_28_0 : hp_p (hq z w c s) 28 0 = some 29 := (hq_pn 28 0 (by decide)).trans P0_28_0
theorem pq_30_0 : hp_p (hq z w c s) 30 0 = some 31 := (hq_pn 30 0 (by decide)).trans P0_30_0
theorem pq_30_1 : hp_p (hq z w c s) 30 1 = some 33 := (hq_pn 30 1 (by decide)).trans P0_30_1
theorem pq_30_2 : hp_p (hq z w c s) 30 2 = some 34 := (hq_pn 30 2 (by decide)).trans P0_30_2
theorem pq_31_0 : hp_p (hq z w c s) 31 0 = some 32 := (hq_pn 31 0 (by decide)).trans P0_31_0
theorem pq_35_0 : hp_p (hq z w c s) 35 0 = some 36 := (hq_pn 35 0 (by decide)).trans P0_35_0
theorem pq_35_1 : hp_p (hq z w c s) 35 1 = some 38 := (hq_pn 35 1 (by decide)).trans P0_35_1
theorem pq_35_2 : hp_p (hq z w c s) 35 2 = some 39 := (hq_pn 35 2 (by decide)).trans P0_35_2
theorem pq_36_0 : hp_p (hq z w c s) 36 0 = some 37 := (hq_pn 36 0 (by decide)).trans P0_36_0
theorem pq_40_0 : hp_p (hq z w c s) 40 0 = some 41 := (hq_pn 40 0 (by decide)).trans P0_40_0
theorem pq_40_1 : hp_p (hq z w c s) 40 1 = some 43 := (hq_pn 40 1 (by decide)).trans P0_40_1
theorem pq_40_2 : hp_p (hq z w c s) 40 2 = some 44 := (hq_pn 40 2 (by decide)).trans P0_40_2
theorem pq_41_0 : hp_p (hq z w c s) 41 0 = some 42 := (hq_pn 41 0 (by decide)).trans P0_41_0
theorem pq_45_0 : hp_p (hq z w c s) 45 0 = some 46 := (hq_pn 45 0 (by decide)).trans P0_45_0
theorem pq_45_1 : hp_p (hq z w c s) 45 1 = some 48 := (hq_pn 45 1 (by decide)).trans P0_45_1
theorem pq_45_2 : hp_p (hq z w c s) 45 2 = some 49 := (hq_pn 45 2 (by decide)).trans P0_45_2
theorem pq_46_0 : hp_p (hq z w c s) 46 0 = some 47 := (hq_pn 46 0 (by decide)).trans P0_46_0
theorem pq_50_0 : hp_p (hq z w c s) 50 0 = some 51 := (hq_pn 50 0 (by decide)).trans P0_50_0
theorem pq_52_0 : hp_p (hq z w c s) 52 0 = some 53 := (hq_pn 52 0 (by decide)).trans P0_52_0
theorem pq_52_1 : hp_p (hq z w c s) 52 1 = some 54 := (hq_pn 52 1 (by decide)).trans P0_52_1
theorem pq_52_2 : hp_p (hq z w c s) 52 2 = some 55 := (hq_pn 52 2 (by decide)).trans P0_52_2
theorem pq_52_3 : hp_p (hq z w c s) 52 3 = some 56 := (hq_pn 52 3 (by decide)).trans P0_52_3
theorem pq_52_4 : hp_p (hq z w c s) 52 4 = some 57 := (hq_pn 52 4 (by decide)).trans P0_52_4
theorem pq_52_5 : hp_p (hq z w c s) 52 5 = some 58 := (hq_pn 52 5 (by decide)).trans P0_52_5
theorem pq_52_6 : hp_p (hq z w c s) 52 6 = some 59 := (hq_pn 52 6 (by decide)).trans P0_52_6
theorem pq_52_8 : hp_p (hq z w c s) 52 8 = some 60 := (hq_pn 52 8 (by decide)).trans P0_52_8
theorem pq_52_10 : hp_p (hq z w c s) 52 10 = some 61 := (hq_pn 52 10 (by decide)).trans P0_52_10
theorem pq_52_11 : hp_p (hq z w c s) 52 11 = some 62 := (hq_pn 52 11 (by decide)).trans P0_52_11
theorem pq_52_14 : hp_p (hq z w c s) 52 14 = some 63 := (hq_pn 52 14 (by decide)).trans P0_52_14
theorem pq_52_15 : hp_p (hq z w c s) 52 15 = some 64 := (hq_pn 52 15 (by decide)).trans P0_52_15
theorem pq_52_16 : hp_p (hq z w c s) 52 16 = some 65 := (hq_pn 52 16 (by decide)).trans P0_52_16
theorem pq_52_17 : hp_p (hq z w c s) 52 17 = some 66 := (hq_pn 52 17 (by decide)).trans P0_52_17
theorem pq_52_18 : hp_p (hq z w c s) 52 18 = some 67 := (hq_pn 52 18 (by decide)).trans P0_52_18
theorem pq_52_27 : hp_p (hq z w c s) 52 27 = some 68 := (hq_pn 52 27 (by decide)).trans P0_52_27
theorem pq_52_29 : hp_p (hq z w c s) 52 29 = some 69 := (hq_pn 52 29 (by decide)).trans P0_52_29
theorem pq_52_30 : hp_p (hq z w c s) 52 30 = some 70 := (hq_pn 52 30 (by decide)).trans P0_52_30
theorem pq_52_31 : hp_p (hq z w c s) 52 31 = some 71 := (hq_pn 52 31 (by decide)).trans P0_52_31
theorem pq_52_32 : hp_p (hq z w c s) 52 32 = some 72 := (hq_pn 52 32 (by decide)).trans P0_52_32
theorem pq_52_33 : hp_p (hq z w c s) 52 33 = some 73 := (hq_pn 52 33 (by decide)).trans P0_52_33
theorem pq_52_34 : hp_p (hq z w c s) 52 34 = some 74 := (hq_pn 52 34 (by decide)).trans P0_52_34
theorem pq_52_35 : hp_p (hq z w c s) 52 35 = some 75 := (hq_pn 52 35 (by decide)).trans P0_52_35
theorem pq_52_36 : hp_p (hq z w c s) 52 36 = some 76 := (hq_pn 52 36 (by decide)).trans P0_52_36
theorem pq_52_37 : hp_p (hq z w c s) 52 37 = some 77 := (hq_pn 52 37 (by decide)).trans P0_52_37
theorem pq_52_38 : hp_p (hq z w c s) 52 38 = some 78 := (hq_pn 52 38 (by decide)).trans P0_52_38
theorem pq_52_39 : hp_p (hq z w c s) 52 39 = some 79 := (hq_pn 52 39 (by decide)).trans P0_52_39
theorem pq_52_40 : hp_p (hq z w c s) 52 40 = some 80 := (hq_pn 52 40 (by decide)).trans P0_52_40
theorem pq_52_41 : hp_p (hq z w c s) 52 41 = some 81 := (hq_pn 52 41 (by decide)).trans P0_52_41
end Hq
theorem hq_of {h : hp_T} (h1 : h.1 = K0) (hp : hp_p h = P0) : h = hq (hp_z h) (P0 29) (hp_c h) (hp_s h) := by
  unfold hq
  rw [va_upi, ← h1, ← hp]
  rfl
theorem hx_q : hx_M = hq (hp_z hx_M) (P0 29) (hp_c hx_M) (hp_s hx_M) := hq_of hx_K (by unfold P0; rfl)
