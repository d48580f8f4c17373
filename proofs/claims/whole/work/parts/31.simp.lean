section Simp
variable {z : Nat → Nat → Int32} {w : Nat → Option Nat} {c s : Nat}
theorem dg_1 (x : Option ev_O) : dg true x = x := Eq.trans rfl rfl
theorem db_1 (x y : Option ev_O) : db true x y = x := Eq.trans rfl rfl
theorem db_0 (x y : Option ev_O) : db false x y = y := Eq.trans rfl rfl
theorem dl_1 (x : hp_T) (f : hp_T → Option ev_O) : dl x f = f x := Eq.trans rfl rfl
theorem dp_1 (r : Nat) (f : Nat → Option ev_O) : dp (some r) f = f r := Eq.trans rfl rfl
theorem dv_1 (h : hp_T) (f : hp_T → Option ev_O) : dv (some (.inl none, h)) f = f h := Eq.trans rfl rfl
theorem dv_x (q : Nat) (h : hp_T) (f : hp_T → Option ev_O) : dv (some (.inr q, h)) f = some (.inr q, h) := Eq.trans rfl rfl
theorem di_1 (v : Int32) (h : hp_T) (f : Int32 → hp_T → Option ev_O) : di (some (.inl (some (.int v)), h)) f = f v h := Eq.trans rfl rfl
theorem di_x (q : Nat) (h : hp_T) (f : Int32 → hp_T → Option ev_O) : di (some (.inr q, h)) f = some (.inr q, h) := Eq.trans rfl rfl
theorem dw_1 (h : hp_T) (f : hp_T → Option ev_O) : dw (some (.inl none, h)) f = f h := Eq.trans rfl rfl
theorem dg_t {c : Bool} (hc : c = true) (x : Option ev_O) : dg c x = x := by rw [hc]; rfl
theorem dp_t {x : Option Nat} {r : Nat} (hx : x = some r) (f : Nat → Option ev_O) : dp x f = f r := by rw [hx]; rfl
theorem ec_eq (x y : Int32) : ev_c .eq x y = decide (x = y) := Eq.trans rfl rfl
theorem ec_ne (x y : Int32) : ev_c .ne x y = decide (¬ x = y) := Eq.trans rfl rfl
theorem ec_lt (x y : Int32) : ev_c .lt x y = decide (x < y) := Eq.trans rfl rfl
theorem ec_ge (x y : Int32) : ev_c .ge x y = decide (y ≤ x) := Eq.trans rfl rfl
theorem ec_gt (x y : Int32) : ev_c .gt x y = decide (y < x) := Eq.trans rfl rfl
theorem ec_le (x y : Int32) : ev_c .le x y = decide (x ≤ y) := Eq.trans rfl rfl
theorem ev_in_nI {i n : Nat} (hi : i < n) (hn : n < 2 ^ 31) : ev_in (nI i) n = true := by
  unfold ev_in
  rw [nI_clamp (by omega)]
  have h1 : ¬ nI i < 0 := nI_pos (by omega)
  simp [h1]
  omega
theorem dz_b {v : Int32} (hv : dz v) : dzb v = true := by rcases hv with rfl | rfl <;> rfl
theorem decT {p : Prop} [Decidable p] (h : p) : decide p = true := decide_eq_true h
theorem decF {p : Prop} [Decidable p] (h : ¬ p) : decide p = false := decide_eq_false h
theorem aq_1 (j : Int32) : aib 103 (hq z w c s) 1 j = ev_in j 8 := Eq.trans rfl rfl
theorem aq_11 (j : Int32) : aib 64 (hq z w c s) 11 j = ev_in j 400 := Eq.trans rfl rfl
theorem aq_12 (j : Int32) : aib 64 (hq z w c s) 12 j = ev_in j 400 := Eq.trans rfl rfl
theorem aq_13 (j : Int32) : aib 64 (hq z w c s) 13 j = ev_in j 400 := Eq.trans rfl rfl
theorem aq_14 (j : Int32) : aib 64 (hq z w c s) 14 j = ev_in j 400 := Eq.trans rfl rfl
theorem aq_16 (j : Int32) : aib 65 (hq z w c s) 16 j = ev_in j 2000 := Eq.trans rfl rfl
theorem aq_18 (j : Int32) : aib 65 (hq z w c s) 18 j = ev_in j 4060 := Eq.trans rfl rfl
theorem aq_20 (j : Int32) : aib 65 (hq z w c s) 20 j = ev_in j 4020 := Eq.trans rfl rfl
theorem aq_22 (j : Int32) : aib 65 (hq z w c s) 22 j = ev_in j 5000 := Eq.trans rfl rfl
theorem aq_23 (j : Int32) : aib 64 (hq z w c s) 23 j = ev_in j 50 := Eq.trans rfl rfl
theorem aq_24 (j : Int32) : aib 64 (hq z w c s) 24 j = ev_in j 50 := Eq.trans rfl rfl
theorem aq_25 (j : Int32) : aib 64 (hq z w c s) 25 j = ev_in j 50 := Eq.trans rfl rfl
theorem aq_26 (j : Int32) : aib 64 (hq z w c s) 26 j = ev_in j 50 := Eq.trans rfl rfl
theorem aq_27 (j : Int32) : aib 65 (hq z w c s) 27 j = ev_in j 60 := Eq.trans rfl rfl
theorem aq_29 (j : Int32) : aib 105 (hq z w c s) 29 j = ev_in j 4 := Eq.trans rfl rfl
theorem aq_32 (j : Int32) : aib 65 (hq z w c s) 32 j = ev_in j 68 := Eq.trans rfl rfl
theorem aq_33 (j : Int32) : aib 65 (hq z w c s) 33 j = ev_in j 4000 := Eq.trans rfl rfl
theorem aq_34 (j : Int32) : aib 66 (hq z w c s) 34 j = ev_in j 500 := Eq.trans rfl rfl
theorem aq_37 (j : Int32) : aib 65 (hq z w c s) 37 j = ev_in j 68 := Eq.trans rfl rfl
theorem aq_38 (j : Int32) : aib 65 (hq z w c s) 38 j = ev_in j 4000 := Eq.trans rfl rfl
theorem aq_39 (j : Int32) : aib 66 (hq z w c s) 39 j = ev_in j 500 := Eq.trans rfl rfl
theorem aq_42 (j : Int32) : aib 65 (hq z w c s) 42 j = ev_in j 68 := Eq.trans rfl rfl
theorem aq_43 (j : Int32) : aib 65 (hq z w c s) 43 j = ev_in j 4000 := Eq.trans rfl rfl
theorem aq_44 (j : Int32) : aib 66 (hq z w c s) 44 j = ev_in j 500 := Eq.trans rfl rfl
theorem aq_47 (j : Int32) : aib 65 (hq z w c s) 47 j = ev_in j 68 := Eq.trans rfl rfl
theorem aq_48 (j : Int32) : aib 65 (hq z w c s) 48 j = ev_in j 4000 := Eq.trans rfl rfl
theorem aq_49 (j : Int32) : aib 66 (hq z w c s) 49 j = ev_in j 500 := Eq.trans rfl rfl
theorem aq_51 (j : Int32) : aib 65 (hq z w c s) 51 j = ev_in j 4000 := Eq.trans rfl rfl
theorem aq_53 (j : Int32) : aib 64 (hq z w c s) 53 j = ev_in j 8 := Eq.trans rfl rfl
theorem aq_54 (j : Int32) : aib 64 (hq z w c s) 54 j = ev_in j 8 := Eq.trans rfl rfl
theorem aq_55 (j : Int32) : aib 66 (hq z w c s) 55 j = ev_in j 8 := Eq.trans rfl rfl
theorem aq_56 (j : Int32) : aib 64 (hq z w c s) 56 j = ev_in j 400 := Eq.trans rfl rfl
theorem aq_57 (j : Int32) : aib 64 (hq z w c s) 57 j = ev_in j 400 := Eq.trans rfl rfl
theorem aq_58 (j : Int32) : aib 64 (hq z w c s) 58 j = ev_in j 400 := Eq.trans rfl rfl
theorem aq_59 (j : Int32) : aib 64 (hq z w c s) 59 j = ev_in j 400 := Eq.trans rfl rfl
theorem aq_60 (j : Int32) : aib 64 (hq z w c s) 60 j = ev_in j 2000 := Eq.trans rfl rfl
theorem aq_61 (j : Int32) : aib 64 (hq z w c s) 61 j = ev_in j 4100 := Eq.trans rfl rfl
theorem aq_62 (j : Int32) : aib 64 (hq z w c s) 62 j = ev_in j 4200 := Eq.trans rfl rfl
theorem aq_63 (j : Int32) : aib 64 (hq z w c s) 63 j = ev_in j 24000 := Eq.trans rfl rfl
theorem aq_64 (j : Int32) : aib 64 (hq z w c s) 64 j = ev_in j 300 := Eq.trans rfl rfl
theorem aq_65 (j : Int32) : aib 64 (hq z w c s) 65 j = ev_in j 300 := Eq.trans rfl rfl
theorem aq_66 (j : Int32) : aib 64 (hq z w c s) 66 j = ev_in j 300 := Eq.trans rfl rfl
theorem aq_67 (j : Int32) : aib 64 (hq z w c s) 67 j = ev_in j 300 := Eq.trans rfl rfl
theorem aq_68 (j : Int32) : aib 64 (hq z w c s) 68 j = ev_in j 4000 := Eq.trans rfl rfl
theorem aq_69 (j : Int32) : aib 64 (hq z w c s) 69 j = ev_in j 4 := Eq.trans rfl rfl
theorem aq_70 (j : Int32) : aib 64 (hq z w c s) 70 j = ev_in j 4 := Eq.trans rfl rfl
theorem aq_71 (j : Int32) : aib 64 (hq z w c s) 71 j = ev_in j 4 := Eq.trans rfl rfl
theorem aq_72 (j : Int32) : aib 64 (hq z w c s) 72 j = ev_in j 4 := Eq.trans rfl rfl
theorem aq_73 (j : Int32) : aib 64 (hq z w c s) 73 j = ev_in j 4 := Eq.trans rfl rfl
theorem aq_74 (j : Int32) : aib 64 (hq z w c s) 74 j = ev_in j 4 := Eq.trans rfl rfl
theorem aq_75 (j : Int32) : aib 64 (hq z w c s) 75 j = ev_in j 4 := Eq.trans rfl rfl
theorem aq_76 (j : Int32) : aib 64 (hq z w c s) 76 j = ev_in j 240 := Eq.trans rfl rfl
theorem aq_77 (j : Int32) : aib 64 (hq z w c s) 77 j = ev_in j 32 := Eq.trans rfl rfl
theorem aq_78 (j : Int32) : aib 64 (hq z w c s) 78 j = ev_in j 4 := Eq.trans rfl rfl
theorem aq_79 (j : Int32) : aib 64 (hq z w c s) 79 j = ev_in j 4 := Eq.trans rfl rfl
theorem aq_80 (j : Int32) : aib 64 (hq z w c s) 80 j = ev_in j 16000 := Eq.trans rfl rfl
theorem aq_81 (j : Int32) : aib 66 (hq z w c s) 81 j = ev_in j 16000 := Eq.trans rfl rfl
theorem lq_11 (m : Nat) : acl 64 (hq z w c s) 11 m = decide (m ≤ 400) := Eq.trans rfl rfl
theorem lq_12 (m : Nat) : acl 64 (hq z w c s) 12 m = decide (m ≤ 400) := Eq.trans rfl rfl
theorem lq_13 (m : Nat) : acl 64 (hq z w c s) 13 m = decide (m ≤ 400) := Eq.trans rfl rfl
theorem lq_14 (m : Nat) : acl 64 (hq z w c s) 14 m = decide (m ≤ 400) := Eq.trans rfl rfl
theorem lq_16 (m : Nat) : acl 65 (hq z w c s) 16 m = decide (m ≤ 2000) := Eq.trans rfl rfl
theorem lq_18 (m : Nat) : acl 65 (hq z w c s) 18 m = decide (m ≤ 4060) := Eq.trans rfl rfl
theorem lq_20 (m : Nat) : acl 65 (hq z w c s) 20 m = decide (m ≤ 4020) := Eq.trans rfl rfl
theorem lq_22 (m : Nat) : acl 65 (hq z w c s) 22 m = decide (m ≤ 5000) := Eq.trans rfl rfl
theorem lq_23 (m : Nat) : acl 64 (hq z w c s) 23 m = decide (m ≤ 50) := Eq.trans rfl rfl
theorem lq_24 (m : Nat) : acl 64 (hq z w c s) 24 m = decide (m ≤ 50) := Eq.trans rfl rfl
theorem lq_25 (m : Nat) : acl 64 (hq z w c s) 25 m = decide (m ≤ 50) := Eq.trans rfl rfl
theorem lq_26 (m : Nat) : acl 64 (hq z w c s) 26 m = decide (m ≤ 50) := Eq.trans rfl rfl
theorem lq_27 (m : Nat) : acl 65 (hq z w c s) 27 m = decide (m ≤ 60) := Eq.trans rfl rfl
theorem lq_32 (m : Nat) : acl 65 (hq z w c s) 32 m = decide (m ≤ 68) := Eq.trans rfl rfl
theorem lq_33 (m : Nat) : acl 65 (hq z w c s) 33 m = decide (m ≤ 4000) := Eq.trans rfl rfl
theorem lq_34 (m : Nat) : acl 66 (hq z w c s) 34 m = decide (m ≤ 500) := Eq.trans rfl rfl
theorem lq_37 (m : Nat) : acl 65 (hq z w c s) 37 m = decide (m ≤ 68) := Eq.trans rfl rfl
theorem lq_38 (m : Nat) : acl 65 (hq z w c s) 38 m = decide (m ≤ 4000) := Eq.trans rfl rfl
theorem lq_39 (m : Nat) : acl 66 (hq z w c s) 39 m = decide (m ≤ 500) := Eq.trans rfl rfl
theorem lq_42 (m : Nat) : acl 65 (hq z w c s) 42 m = decide (m ≤ 68) := Eq.trans rfl rfl
theorem lq_43 (m : Nat) : acl 65 (hq z w c s) 43 m = decide (m ≤ 4000) := Eq.trans rfl rfl
theorem lq_44 (m : Nat) : acl 66 (hq z w c s) 44 m = decide (m ≤ 500) := Eq.trans rfl rfl
theorem lq_47 (m : Nat) : acl 65 (hq z w c s) 47 m = decide (m ≤ 68) := Eq.trans rfl rfl
theorem lq_48 (m : Nat) : acl 65 (hq z w c s) 48 m = decide (m ≤ 4000) := Eq.trans rfl rfl
theorem lq_49 (m : Nat) : acl 66 (hq z w c s) 49 m = decide (m ≤ 500) := Eq.trans rfl rfl
theorem lq_51 (m : Nat) : acl 65 (hq z w c s) 51 m = decide (m ≤ 4000) := Eq.trans rfl rfl
theorem lq_53 (m : Nat) : acl 64 (hq z w c s) 53 m = decide (m ≤ 8) := Eq.trans rfl rfl
theorem lq_54 (m : Nat) : acl 64 (hq z w c s) 54 m = decide (m ≤ 8) := Eq.trans rfl rfl
theorem lq_55 (m : Nat) : acl 66 (hq z w c s) 55 m = decide (m ≤ 8) := Eq.trans rfl rfl
theorem lq_56 (m : Nat) : acl 64 (hq z w c s) 56 m = decide (m ≤ 400) := Eq.trans rfl rfl
theorem lq_57 (m : Nat) : acl 64 (hq z w c s) 57 m = decide (m ≤ 400) := Eq.trans rfl rfl
theorem lq_58 (m : Nat) : acl 64 (hq z w c s) 58 m = decide (m ≤ 400) := Eq.trans rfl rfl
theorem lq_59 (m : Nat) : acl 64 (hq z w c s) 59 m = decide (m ≤ 400) := Eq.trans rfl rfl
theorem lq_60 (m : Nat) : acl 64 (hq z w c s) 60 m = decide (m ≤ 2000) := Eq.trans rfl rfl
theorem lq_61 (m : Nat) : acl 64 (hq z w c s) 61 m = decide (m ≤ 4100) := Eq.trans rfl rfl
theorem lq_62 (m : Nat) : acl 64 (hq z w c s) 62 m = decide (m ≤ 4200) := Eq.trans rfl rfl
theorem lq_63 (m : Nat) : acl 64 (hq z w c s) 63 m = decide (m ≤ 24000) := Eq.trans rfl rfl
theorem lq_64 (m : Nat) : acl 64 (hq z w c s) 64 m = decide (m ≤ 300) := Eq.trans rfl rfl
theorem lq_65 (m : Nat) : acl 64 (hq z w c s) 65 m = decide (m ≤ 300) := Eq.trans rfl rfl
theorem lq_66 (m : Nat) : acl 64 (hq z w c s) 66 m = decide (m ≤ 300) := Eq.trans rfl rfl
theorem lq_67 (m : Nat) : acl 64 (hq z w c s) 67 m = decide (m ≤ 300) := Eq.trans rfl rfl
theorem lq_68 (m : Nat) : acl 64 (hq z w c s) 68 m = decide (m ≤ 4000) := Eq.trans rfl rfl
theorem lq_69 (m : Nat) : acl 64 (hq z w c s) 69 m = decide (m ≤ 4) := Eq.trans rfl rfl
theorem lq_70 (m : Nat) : acl 64 (hq z w c s) 70 m = decide (m ≤ 4) := Eq.trans rfl rfl
theorem lq_71 (m : Nat) : acl 64 (hq z w c s) 71 m = decide (m ≤ 4) := Eq.trans rfl rfl
theorem lq_72 (m : Nat) : acl 64 (hq z w c s) 72 m = decide (m ≤ 4) := Eq.trans rfl rfl
theorem lq_73 (m : Nat) : acl 64 (hq z w c s) 73 m = decide (m ≤ 4) := Eq.trans rfl rfl
theorem lq_74 (m : Nat) : acl 64 (hq z w c s) 74 m = decide (m ≤ 4) := Eq.trans rfl rfl
theorem lq_75 (m : Nat) : acl 64 (hq z w c s) 75 m = decide (m ≤ 4) := Eq.trans rfl rfl
theorem lq_76 (m : Nat) : acl 64 (hq z w c s) 76 m = decide (m ≤ 240) := Eq.trans rfl rfl
theorem lq_77 (m : Nat) : acl 64 (hq z w c s) 77 m = decide (m ≤ 32) := Eq.trans rfl rfl
theorem lq_78 (m : Nat) : acl 64 (hq z w c s) 78 m = decide (m ≤ 4) := Eq.trans rfl rfl
theorem lq_79 (m : Nat) : acl 64 (hq z w c s) 79 m = decide (m ≤ 4) := Eq.trans rfl rfl
theorem lq_80 (m : Nat) : acl 64 (hq z w c s) 80 m = decide (m ≤ 16000) := Eq.trans rfl rfl
theorem lq_81 (m : Nat) : acl 66 (hq z w c s) 81 m = decide (m ≤ 16000) := Eq.trans rfl rfl
end Simp
