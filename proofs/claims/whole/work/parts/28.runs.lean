section Runs
-- runs of the evaluator with enough fuel
def rg (k pc : Nat) (L st : List Value) (h : hp_T) (o : ev_O) : Prop := ∃ N : Nat, ∀ d f0 g : Nat, N ≤ d → N ≤ f0 → N ≤ g → ev_1 (ev_m d f0) g k pc L st h = some o
def rm (k : Nat) (as : List Value) (h : hp_T) (o : ev_O) : Prop := ∃ N : Nat, ∀ d f : Nat, N ≤ d → N ≤ f → ev_m d f k as h = some o
variable {k pc pc' x ci fk n a b r : Nat} {i : Instr} {L L' st st' as : List Value} {h h' h2 : hp_T} {o : ev_O} {v w u j : Int32}
theorem rm_pr (hr : rm k as h o) : pr_ k as h o := by
  obtain ⟨N, hN⟩ := hr
  exact ⟨N, N, hN N N (Nat.le_refl _) (Nat.le_refl _)⟩
theorem rm_in (hl : as.length ≤ tb_ml k) (hL : as ++ List.replicate (tb_ml k - as.length) .null = L) (hr : rg k 0 L [] h o) : rm k as h o := by
  obtain ⟨N, hN⟩ := hr
  subst hL
  refine ⟨N + 1, fun d f h1 h2 => ?_⟩
  obtain ⟨d, rfl⟩ : ∃ e, d = e + 1 := ⟨d - 1, by omega⟩
  rw [ev_m, if_pos hl]
  exact hN d f f (by omega) (by omega) (by omega)
theorem rg_st (hs : ∀ call g, ev_1 call (g + 1) k pc L st h = ev_1 call g k pc' L' st' h') (kk : rg k pc' L' st' h' o) : rg k pc L st h o := by
  obtain ⟨N, hN⟩ := kk
  refine ⟨N + 1, fun d f0 g h1 h2 h3 => ?_⟩
  obtain ⟨g, rfl⟩ : ∃ e, g = e + 1 := ⟨g - 1, by omega⟩
  rw [hs]
  exact hN d f0 g (by omega) (by omega) (by omega)
theorem rg_p (hi : tb_ins k pc = some i) (hp : ev_p i pc L st = some (pc', L', st')) (kk : rg k pc' L' st' h o) : rg k pc L st h o :=
  rg_st (fun call g => by rw [ev_1_s]; unfold ev_b; rw [hi]; simp only [hp]) kk
theorem rg_h (hi : tb_ins k pc = some i) (hp : ev_p i pc L st = none) (hh : ev_h (tb_rs k) i st h = some (st', h')) (hl : pc + ev_len i = pc') (kk : rg k pc' L st' h' o) : rg k pc L st h o := by
  subst hl
  exact rg_st (fun call g => by rw [ev_1_s]; unfold ev_b; rw [hi]; simp only [hp, hh]) kk
theorem rg_o (hs : ∀ call g, ev_1 call (g + 1) k pc L st h = some o) : rg k pc L st h o := by
  refine ⟨1, fun d f0 g h1 h2 h3 => ?_⟩
  obtain ⟨g, rfl⟩ : ∃ e, g = e + 1 := ⟨g - 1, by omega⟩
  exact hs _ _
-- a branch
theorem rg_bt {c : Bool} {t : Nat} (hi : tb_ins k pc = some i) (hp : ev_p i pc L st = some (if c = true then t else pc', L', st')) (hc : c = true) (kk : rg k t L' st' h o) : rg k pc L st h o := by
  rw [if_pos hc] at hp
  exact rg_p hi hp kk
theorem rg_bf {c : Bool} {t : Nat} (hi : tb_ins k pc = some i) (hp : ev_p i pc L st = some (if c = true then t else pc', L', st')) (hc : c = false) (kk : rg k pc' L' st' h o) : rg k pc L st h o := by
  rw [if_neg (by rw [hc]; simp)] at hp
  exact rg_p hi hp kk
-- constants
theorem rg_ic {z : Int} (hi : tb_ins k pc = some (.iconst z)) (hv : Int32.ofInt z = v) (kk : rg k (pc + 1) L (.int v :: st) h o) : rg k pc L st h o := by
  subst hv
  exact rg_p hi rfl kk
theorem rg_bi {z : Int} (hi : tb_ins k pc = some (.bipush z)) (hv : (Int8.ofInt z).toInt32 = v) (kk : rg k (pc + 2) L (.int v :: st) h o) : rg k pc L st h o := by
  subst hv
  exact rg_p hi rfl kk
theorem rg_si {z : Int} (hi : tb_ins k pc = some (.sipush z)) (hv : (Int16.ofInt z).toInt32 = v) (kk : rg k (pc + 3) L (.int v :: st) h o) : rg k pc L st h o := by
  subst hv
  exact rg_p hi rfl kk
theorem rg_ld {z1 z2 : Nat} (hi : tb_ins k pc = some (.ldc x)) (hr : tb_rs k x = (4, z1, z2, v)) (kk : rg k (pc + 2) L (.int v :: st) h o) : rg k pc L st h o :=
  rg_h hi rfl (by simp only [ev_h]; rw [hr]; rfl) rfl kk
theorem rg_lw {z1 z2 : Nat} (hi : tb_ins k pc = some (.ldc_w x)) (hr : tb_rs k x = (4, z1, z2, v)) (kk : rg k (pc + 3) L (.int v :: st) h o) : rg k pc L st h o :=
  rg_h hi rfl (by simp only [ev_h]; rw [hr]; rfl) rfl kk
theorem rg_dv (hi : tb_ins k pc = some .idiv) (hv : ¬ v = 0) (kk : rg k (pc + 1) L (.int (w / v) :: st) h o) : rg k pc L (.int v :: .int w :: st) h o :=
  rg_p hi (by simp only [ev_p]; rw [if_neg hv]) kk
theorem rg_rm (hi : tb_ins k pc = some .irem) (hv : ¬ v = 0) (kk : rg k (pc + 1) L (.int (w - w / v * v) :: st) h o) : rg k pc L (.int v :: .int w :: st) h o :=
  rg_p hi (by simp only [ev_p]; rw [if_neg hv]) kk
-- the heap
def wz (h : hp_T) (a k : Nat) (v : Int32) : hp_T := hp_zw h a (upd (hp_z h a) k v)
def wc (h : hp_T) (a : Nat) (u : Int32) (b : Nat) (w v : Int32) : hp_T := hp_zw h b (va_cpy (hp_z h a) (hp_z h b) u.toNatClampNeg w.toNatClampNeg v.toNatClampNeg)
def dz (v : Int32) : Prop := v = 0 ∨ v = 1
theorem dz_0 : dz 0 := Or.inl rfl
theorem dz_1 : dz 1 := Or.inr rfl
def dzb (v : Int32) : Bool := decide (v = 0) || decide (v = 1)
theorem dz_of (hv : dzb v = true) : dz v := by
  unfold dzb at hv
  simp only [Bool.or_eq_true, decide_eq_true_eq] at hv
  exact hv
def ai (t : Nat) (h : hp_T) (a : Nat) (j : Int32) : Prop := ∃ n, hp_k h a = some (t, n) ∧ ev_in j n = true
def aib (t : Nat) (h : hp_T) (a : Nat) (j : Int32) : Bool := match hp_k h a with
  | some (t2, n) => decide (t2 = t) && ev_in j n
  | none => false
theorem ai_of {t : Nat} (hb : aib t h a j = true) : ai t h a j := by
  unfold aib at hb
  split at hb
  · rename_i t2 n e
    simp only [Bool.and_eq_true, decide_eq_true_eq] at hb
    exact ⟨n, by rw [e, hb.1], hb.2⟩
  · cases hb
def ac (t : Nat) (h : hp_T) (a : Nat) (u : Int32) (b : Nat) (w v : Int32) : Prop := (¬ u < 0 ∧ ¬ w < 0 ∧ ¬ v < 0) ∧ (∃ n, hp_k h a = some (t, n) ∧ u.toNatClampNeg + v.toNatClampNeg ≤ n) ∧ ∃ n, hp_k h b = some (t, n) ∧ w.toNatClampNeg + v.toNatClampNeg ≤ n
def acl (t : Nat) (h : hp_T) (a m : Nat) : Bool := match hp_k h a with
  | some (t2, n) => decide (t2 = t) && decide (m ≤ n)
  | none => false
def acb (t : Nat) (h : hp_T) (a : Nat) (u : Int32) (b : Nat) (w v : Int32) : Bool := decide (¬ u < 0 ∧ ¬ w < 0 ∧ ¬ v < 0) && (acl t h a (u.toNatClampNeg + v.toNatClampNeg) && acl t h b (w.toNatClampNeg + v.toNatClampNeg))
theorem acl_of {t m : Nat} (hb : acl t h a m = true) : ∃ n, hp_k h a = some (t, n) ∧ m ≤ n := by
  unfold acl at hb
  split at hb
  · rename_i t2 n e
    simp only [Bool.and_eq_true, decide_eq_true_eq] at hb
    exact ⟨n, by rw [e, hb.1], hb.2⟩
  · cases hb
theorem ac_of {t : Nat} (hb : acb t h a u b w v = true) : ac t h a u b w v := by
  unfold acb at hb
  simp only [Bool.and_eq_true, decide_eq_true_eq] at hb
  exact ⟨hb.1, acl_of hb.2.1, acl_of hb.2.2⟩
theorem rg_gz {z : Int32} (hi : tb_ins k pc = some (.getfield x)) (hr : tb_rs k x = (1, ci, fk, z)) (hf : ev_rr (tb_ft ci fk) = false) (hk : hp_k h a = some (ci, 0)) (kk : rg k (pc + 3) L (.int (hp_z h a fk) :: st) h o) : rg k pc L (.ref a :: st) h o :=
  rg_h hi rfl (by simp only [ev_h]; rw [hr, if_pos ⟨rfl, hk⟩, ev_fv, if_neg (by rw [hf]; simp)]) rfl kk
theorem rg_gp {z : Int32} (hi : tb_ins k pc = some (.getfield x)) (hr : tb_rs k x = (1, ci, fk, z)) (hf : ev_rr (tb_ft ci fk) = true) (hk : hp_k h a = some (ci, 0)) (hp : hp_p h a fk = some r) (kk : rg k (pc + 3) L (.ref r :: st) h o) : rg k pc L (.ref a :: st) h o :=
  rg_h hi rfl (by simp only [ev_h]; rw [hr, if_pos ⟨rfl, hk⟩, ev_fv, if_pos hf, hp]; rfl) rfl kk
theorem rg_pi {z : Int32} (hi : tb_ins k pc = some (.putfield x)) (hr : tb_rs k x = (1, ci, fk, z)) (hf : tb_ft ci fk = .int) (hk : hp_k h a = some (ci, 0)) (e : h' = wz h a fk v) (kk : rg k (pc + 3) L st h' o) : rg k pc L (.int v :: .ref a :: st) h o := by
  subst e
  exact rg_h hi rfl (by simp only [ev_h]; rw [hr, if_pos ⟨rfl, hk, by rw [hf]; rfl, by rw [hf]; rfl, by rw [hf]; rfl⟩]; rfl) rfl kk
theorem rg_pb {z : Int32} (hi : tb_ins k pc = some (.putfield x)) (hr : tb_rs k x = (1, ci, fk, z)) (hf : tb_ft ci fk = .boolean) (hk : hp_k h a = some (ci, 0)) (hv : dz v) (e : h' = wz h a fk v) (kk : rg k (pc + 3) L st h' o) : rg k pc L (.int v :: .ref a :: st) h o := by
  subst e
  exact rg_h hi rfl (by simp only [ev_h]; rw [hr, if_pos ⟨rfl, hk, by rw [hf]; rfl, by rw [hf]; rcases hv with rfl | rfl <;> rfl, by rw [hf]; rcases hv with rfl | rfl <;> rfl⟩]; rfl) rfl kk
theorem rg_pp {z : Int32} (hi : tb_ins k pc = some (.putfield x)) (hr : tb_rs k x = (1, ci, fk, z)) (hf : ev_rr (tb_ft ci fk) = true) (hk : hp_k h a = some (ci, 0)) (e : h' = hp_pw h a fk (some b)) (kk : rg k (pc + 3) L st h' o) : rg k pc L (.ref b :: .ref a :: st) h o := by
  subst e
  exact rg_h hi rfl (by simp only [ev_h]; rw [hr, if_pos ⟨rfl, hk, hf⟩]) rfl kk
theorem rg_ia (hi : tb_ins k pc = some .iaload) (hk : ai 64 h a j) (kk : rg k (pc + 1) L (.int (hp_z h a j.toNatClampNeg) :: st) h o) : rg k pc L (.int j :: .ref a :: st) h o := by
  obtain ⟨n, h1, h2⟩ := hk
  exact rg_h hi rfl (by simp only [ev_h, h1]; rw [if_pos ⟨trivial, h2⟩]) rfl kk
theorem rg_ba {t : Nat} (ht : t = 65 ∨ t = 66) (hi : tb_ins k pc = some .baload) (hk : ai t h a j) (kk : rg k (pc + 1) L (.int (hp_z h a j.toNatClampNeg) :: st) h o) : rg k pc L (.int j :: .ref a :: st) h o := by
  obtain ⟨n, h1, h2⟩ := hk
  exact rg_h hi rfl (by simp only [ev_h, h1]; rw [if_pos ⟨ht, h2⟩]) rfl kk
theorem rg_aa {t : Nat} (ht : 100 ≤ t) (hi : tb_ins k pc = some .aaload) (hk : ai t h a j) (hp : hp_p h a j.toNatClampNeg = some r) (kk : rg k (pc + 1) L (.ref r :: st) h o) : rg k pc L (.int j :: .ref a :: st) h o := by
  obtain ⟨n, h1, h2⟩ := hk
  exact rg_h hi rfl (by simp only [ev_h, h1]; rw [if_pos ⟨ht, h2⟩, hp]; rfl) rfl kk
theorem rg_is (hi : tb_ins k pc = some .iastore) (hk : ai 64 h a j) (e : h' = wz h a j.toNatClampNeg v) (kk : rg k (pc + 1) L st h' o) : rg k pc L (.int v :: .int j :: .ref a :: st) h o := by
  obtain ⟨n, h1, h2⟩ := hk
  subst e
  exact rg_h hi rfl (by simp only [ev_h, h1]; rw [if_pos ⟨trivial, h2⟩]; rfl) rfl kk
theorem rg_bs {t : Nat} {ty : FieldType} (ht : t = 65 ∨ t = 66) (hty : ev_ty t = ty) (hi : tb_ins k pc = some .bastore) (hk : ai t h a j) (e : h' = wz h a j.toNatClampNeg (vp_nar ty v)) (kk : rg k (pc + 1) L st h' o) : rg k pc L (.int v :: .int j :: .ref a :: st) h o := by
  obtain ⟨n, h1, h2⟩ := hk
  subst e
  subst hty
  exact rg_h hi rfl (by simp only [ev_h, h1]; rw [if_pos ⟨ht, h2⟩]; rfl) rfl kk
theorem rg_as {t : Nat} (ht : t < 64) (hi : tb_ins k pc = some .aastore) (hk : ai (100 + t) h a j) (hb : hp_k h b = some (t, 0)) (e : h' = hp_pw h a j.toNatClampNeg (some b)) (kk : rg k (pc + 1) L st h' o) : rg k pc L (.ref b :: .int j :: .ref a :: st) h o := by
  obtain ⟨n, h1, h2⟩ := hk
  subst e
  exact rg_h hi rfl (by simp only [ev_h, h1]; rw [if_pos ⟨by omega, h2, by rw [hb]; simp, by omega⟩]) rfl kk
theorem rg_al {t : Nat} (ht : 64 ≤ t) (hi : tb_ins k pc = some .arraylength) (hk : hp_k h a = some (t, n)) (kk : rg k (pc + 1) L (.int (Int32.ofNat n) :: st) h o) : rg k pc L (.ref a :: st) h o :=
  rg_h hi rfl (by simp only [ev_h, hk]; rw [if_pos ht]) rfl kk
theorem rg_na {y : Jvm.ClassFile.ArrayType} {t : Nat} (ht : ev_at y = t) (h6 : 64 ≤ t) (hi : tb_ins k pc = some (.newarray y)) (hv : ¬ v < 0 ∧ v.toNatClampNeg ≤ 100000) (e : h' = hp_new h t v.toNatClampNeg v.toNatClampNeg) (kk : rg k (pc + 2) L (.ref h.1.length :: st) h' o) : rg k pc L (.int v :: st) h o := by
  subst e
  subst ht
  exact rg_h hi rfl (by simp only [ev_h]; rw [if_pos ⟨hv.1, hv.2, h6⟩]) rfl kk
theorem rg_nq {z1 : Nat} {z : Int32} (hi : tb_ins k pc = some (.anewarray x)) (hr : tb_rs k x = (3, ci, z1, z)) (hv : ¬ v < 0 ∧ v.toNatClampNeg ≤ 100000) (e : h' = hp_new h (100 + ci) v.toNatClampNeg v.toNatClampNeg) (kk : rg k (pc + 3) L (.ref h.1.length :: st) h' o) : rg k pc L (.int v :: st) h o := by
  subst e
  exact rg_h hi rfl (by simp only [ev_h]; rw [hr, if_pos ⟨hv.1, hv.2, rfl⟩]) rfl kk
theorem rg_nw {z1 : Nat} {z : Int32} (hi : tb_ins k pc = some (.new x)) (hr : tb_rs k x = (3, ci, z1, z)) (hc : ci < 64) (e : h' = hp_new h ci 0 z1) (kk : rg k (pc + 3) L (.ref h.1.length :: st) h' o) : rg k pc L st h o := by
  subst e
  exact rg_h hi rfl (by simp only [ev_h]; rw [hr, if_pos ⟨rfl, hc⟩]) rfl kk
theorem rg_oi {z1 z2 : Nat} {z : Int32} (hi : tb_ins k pc = some (.invokespecial x)) (hr : tb_rs k x = (8, z1, z2, z)) (hl : st.length ≤ 8) (kk : rg k (pc + 3) L st h o) : rg k pc L (.ref a :: st) h o :=
  rg_h hi rfl (by simp only [ev_h]; rw [hr, if_pos ⟨rfl, hl⟩]) rfl kk
theorem rg_cp {z1 z2 t : Nat} {z : Int32} (ht : 64 ≤ t ∧ t < 100) (hi : tb_ins k pc = some (.invokestatic x)) (hr : tb_rs k x = (5, z1, z2, z)) (hl : st.length ≤ 8) (hc : ac t h a u b w v) (e : h' = wc h a u b w v) (kk : rg k (pc + 3) L st h' o) : rg k pc L (.int v :: .int w :: .ref b :: .int u :: .ref a :: st) h o := by
  obtain ⟨⟨c1, c2, c3⟩, ⟨n, h1, h2⟩, n2, h3, h4⟩ := hc
  subst e
  exact rg_h hi rfl (by simp only [ev_h]; rw [hr, if_pos ⟨rfl, hl⟩]; simp only [h1, h3]; rw [if_pos ⟨trivial, ht.1, ht.2, c1, c2, c3, h2, h4⟩]; rfl) rfl kk
theorem rg_mx {z1 z2 : Nat} {z : Int32} (hi : tb_ins k pc = some (.invokestatic x)) (hr : tb_rs k x = (6, z1, z2, z)) (hl : st.length ≤ 2) (kk : rg k (pc + 3) L (.int (if w < v then v else w) :: st) h o) : rg k pc L (.int v :: .int w :: st) h o := by
  refine rg_h hi rfl (st' := .int (if w < v then v else w) :: st) (h' := h) ?_ rfl kk
  rcases st with _ | ⟨q, _ | ⟨q2, _ | ⟨q3, st⟩⟩⟩
  · simp [ev_h, hr]
  · cases q <;> simp [ev_h, hr]
  · cases q <;> cases q2 <;> simp [ev_h, hr]
  · simp only [List.length_cons] at hl; omega
theorem rg_mn {z1 z2 : Nat} {z : Int32} (hi : tb_ins k pc = some (.invokestatic x)) (hr : tb_rs k x = (7, z1, z2, z)) (hl : st.length ≤ 2) (kk : rg k (pc + 3) L (.int (if v < w then v else w) :: st) h o) : rg k pc L (.int v :: .int w :: st) h o := by
  refine rg_h hi rfl (st' := .int (if v < w then v else w) :: st) (h' := h) ?_ rfl kk
  rcases st with _ | ⟨q, _ | ⟨q2, _ | ⟨q3, st⟩⟩⟩
  · simp [ev_h, hr]
  · cases q <;> simp [ev_h, hr]
  · cases q <;> cases q2 <;> simp [ev_h, hr]
  · simp only [List.length_cons] at hl; omega
-- the ends
theorem rg_ri {ty : FieldType} (hi : tb_ins k pc = some .ireturn) (hr : tb_rt k = some ty) (hn : narrow ty (.int v) = .int v) : rg k pc L [.int v] h (.inl (some (.int v)), h) :=
  rg_o (fun call g => by rw [ev_1_s]; unfold ev_b; rw [hi]; simp only [ev_p, ev_h, hr]; rw [if_pos hn])
theorem dz_n (hv : dz v) : narrow .boolean (.int v) = .int v := by rcases hv with rfl | rfl <;> rfl
theorem rg_rv (hi : tb_ins k pc = some .return_) (hr : tb_rt k = none) : rg k pc L [] h (.inl none, h) :=
  rg_o (fun call g => by rw [ev_1_s]; unfold ev_b; rw [hi]; simp only [ev_p, ev_h]; rw [if_pos hr])
theorem rg_th {q z1 : Nat} {z : Int32} (hi : tb_ins k pc = some (.new x)) (hr : tb_rs k x = (9, q, z1, z)) (hl : st.length ≤ 8) : rg k pc L st h (.inr q, hp_thr h) :=
  rg_o (fun call g => by rw [ev_1_s]; unfold ev_b; rw [hi]; simp only [ev_p, ev_h]; rw [hr, if_neg (by simp)]; simp only []; rw [if_pos ⟨trivial, hl⟩])
-- calls
theorem rg_call {k2 : Nat} {rest : List Value} (hs : ∀ call g, ev_1 call (g + 1) k pc L st h = (match call k2 as h with
      | some (.inl v, h') => ev_1 call g k (pc + 3) L (v.toList ++ rest) h'
      | some (.inr q, h') => some (.inr q, h')
      | none => none)) {v : Option Value} (hc : rm k2 as h (.inl v, h2)) (kk : rg k (pc + 3) L (v.toList ++ rest) h2 o) : rg k pc L st h o := by
  obtain ⟨N1, h1⟩ := hc
  obtain ⟨N2, h3⟩ := kk
  refine ⟨N1 + N2 + 1, fun d f0 g q1 q2 q3 => ?_⟩
  obtain ⟨g, rfl⟩ : ∃ e, g = e + 1 := ⟨g - 1, by omega⟩
  rw [hs, h1 d f0 (by omega) (by omega)]
  exact h3 d f0 g (by omega) (by omega) (by omega)
theorem rg_callX {k2 q : Nat} {rest : List Value} (hs : ∀ call g, ev_1 call (g + 1) k pc L st h = (match call k2 as h with
      | some (.inl v, h') => ev_1 call g k (pc + 3) L (v.toList ++ rest) h'
      | some (.inr q, h') => some (.inr q, h')
      | none => none)) (hc : rm k2 as h (.inr q, h2)) : rg k pc L st h (.inr q, h2) := by
  obtain ⟨N1, h1⟩ := hc
  refine ⟨N1 + 1, fun d f0 g q1 q2 q3 => ?_⟩
  obtain ⟨g, rfl⟩ : ∃ e, g = e + 1 := ⟨g - 1, by omega⟩
  rw [hs, h1 d f0 (by omega) (by omega)]
theorem rg_v9 {k2 z1 : Nat} {z : Int32} {rest ar : List Value} (hi : tb_ins k pc = some (.invokevirtual x)) (hr : tb_rs k x = (2, k2, z1, z)) (hn : tb_na k2 = n) (hl : n ≤ st.length) (hd : st.drop n = .ref b :: rest) (ht : .ref b :: (st.take n).reverse = as) (h8 : rest.length ≤ 8) (hk : hp_k h b = some (tb_ci k2, 0)) : ∀ (call : Nat → List Value → hp_T → Option ev_O) (g : Nat), ev_1 call (g + 1) k pc L st h = (match call k2 as h with
      | some (.inl v, h') => ev_1 call g k (pc + 3) L (v.toList ++ rest) h'
      | some (.inr q, h') => some (.inr q, h')
      | none => none) := by
  intro call g
  rw [ev_1_s]
  unfold ev_b
  rw [hi]
  simp only [ev_p, ev_h, hr, hn]
  rw [if_pos ⟨trivial, hl⟩]
  simp only [hd]
  rw [if_pos ⟨h8, hk⟩, ht]
  all_goals
    generalize call k2 as h = y
    rcases y with _ | ⟨_ | _, _⟩ <;> rfl
theorem rg_s9 {k2 z1 : Nat} {z : Int32} {rest ar : List Value} (hi : tb_ins k pc = some (.invokestatic x)) (hh : ev_h (tb_rs k) (.invokestatic x) st h = none) (hr : tb_rs k x = (2, k2, z1, z)) (hn : tb_na k2 = n) (hl : n ≤ st.length) (hd : st.drop n = rest) (ht : (st.take n).reverse = as) (h8 : rest.length ≤ 8) : ∀ (call : Nat → List Value → hp_T → Option ev_O) (g : Nat), ev_1 call (g + 1) k pc L st h = (match call k2 as h with
      | some (.inl v, h') => ev_1 call g k (pc + 3) L (v.toList ++ rest) h'
      | some (.inr q, h') => some (.inr q, h')
      | none => none) := by
  intro call g
  rw [ev_1_s]
  unfold ev_b
  rw [hi]
  simp only [ev_p, hh, hr, hn, hd]
  rw [if_pos ⟨trivial, hl, h8⟩, ht]
  all_goals
    generalize call k2 as h = y
    rcases y with _ | ⟨_ | _, _⟩ <;> rfl
theorem rg_i9 {k2 z1 : Nat} {z : Int32} {rest : List Value} (hi : tb_ins k pc = some (.invokespecial x)) (hr : tb_rs k x = (2, k2, z1, z)) (hn : tb_na k2 = n) (hl : n ≤ st.length) (hd : st.drop n = .ref b :: rest) (ht : .ref b :: (st.take n).reverse = as) (h8 : rest.length ≤ 8) (hc : rm k2 as h (.inl none, h2)) (kk : rg k (pc + 3) L rest h2 o) : rg k pc L st h o := by
  have hh : ev_h (tb_rs k) (.invokespecial x) st h = none := by
    rcases st with _ | ⟨q, st⟩
    · rfl
    · cases q <;> simp [ev_h, hr]
  obtain ⟨N1, h1⟩ := hc
  obtain ⟨N2, h3⟩ := kk
  refine ⟨N1 + N2 + 1, fun d f0 g q1 q2 q3 => ?_⟩
  obtain ⟨g, rfl⟩ : ∃ e, g = e + 1 := ⟨g - 1, by omega⟩
  rw [ev_1_s]
  unfold ev_b
  rw [hi]
  simp only [ev_p, hh, hr, hn]
  rw [if_pos ⟨trivial, hl⟩]
  simp only [hd]
  rw [if_pos h8, ht, h1 d f0 (by omega) (by omega)]
  exact h3 d f0 g (by omega) (by omega) (by omega)
theorem rg_s0 {z1 k2 : Nat} {z : Int32} (hr : tb_rs k x = (2, k2, z1, z)) : ev_h (tb_rs k) (.invokestatic x) st h = none := by
  simp only [ev_h]
  split
  · simp [hr]
  · simp [hr]
  · rfl
-- what the method's own text is built of
def dg (c : Bool) (x : Option ev_O) : Option ev_O := if c = true then x else none
def db (c : Bool) (x y : Option ev_O) : Option ev_O := if c = true then x else y
def dl (x : hp_T) (f : hp_T → Option ev_O) : Option ev_O := f x
def dp (x : Option Nat) (f : Nat → Option ev_O) : Option ev_O := match x with
  | some r => f r
  | none => none
def dn (t : Nat) (h : hp_T) (a : Nat) (f : Nat → Option ev_O) : Option ev_O := match hp_k h a with
  | some (t2, n) => if t2 = t then f n else none
  | none => none
def dv (x : Option ev_O) (f : hp_T → Option ev_O) : Option ev_O := match x with
  | some (.inl none, h) => f h
  | some (.inr q, h) => some (.inr q, h)
  | _ => none
def di (x : Option ev_O) (f : Int32 → hp_T → Option ev_O) : Option ev_O := match x with
  | some (.inl (some (.int v)), h) => f v h
  | some (.inr q, h) => some (.inr q, h)
  | _ => none
def dw (x : Option ev_O) (f : hp_T → Option ev_O) : Option ev_O := match x with
  | some (.inl none, h) => f h
  | _ => none
theorem dw_e {x : Option ev_O} {f : hp_T → Option ev_O} (hB : dw x f = some o) : ∃ h', x = some (.inl none, h') ∧ f h' = some o := by
  unfold dw at hB
  split at hB
  · exact ⟨_, rfl, hB⟩
  · cases hB
theorem dg_e {c : Bool} {x : Option ev_O} (hB : dg c x = some o) : c = true ∧ x = some o := by
  unfold dg at hB
  split at hB
  · rename_i q; exact ⟨q, hB⟩
  · cases hB
theorem db_e {c : Bool} {x y : Option ev_O} (hB : db c x y = some o) : (c = true ∧ x = some o) ∨ (c = false ∧ y = some o) := by
  unfold db at hB
  cases c with
  | true => exact Or.inl ⟨rfl, hB⟩
  | false => exact Or.inr ⟨rfl, hB⟩
theorem dl_e {x : hp_T} {f : hp_T → Option ev_O} (hB : dl x f = some o) : ∃ h', h' = x ∧ f h' = some o := ⟨x, rfl, hB⟩
theorem dp_e {x : Option Nat} {f : Nat → Option ev_O} (hB : dp x f = some o) : ∃ r, x = some r ∧ f r = some o := by
  unfold dp at hB
  split at hB
  · exact ⟨_, rfl, hB⟩
  · cases hB
theorem dn_e {t : Nat} {f : Nat → Option ev_O} (hB : dn t h a f = some o) : ∃ n, hp_k h a = some (t, n) ∧ f n = some o := by
  unfold dn at hB
  split at hB
  · rename_i t2 n e
    split at hB
    · rename_i q; subst q; exact ⟨n, e, hB⟩
    · cases hB
  · cases hB
theorem dv_e {x : Option ev_O} {f : hp_T → Option ev_O} (hB : dv x f = some o) : (∃ h', x = some (.inl none, h') ∧ f h' = some o) ∨ ∃ q h', x = some (.inr q, h') ∧ o = (.inr q, h') := by
  unfold dv at hB
  split at hB
  · exact Or.inl ⟨_, rfl, hB⟩
  · exact Or.inr ⟨_, _, rfl, (Option.some.inj hB).symm⟩
  · cases hB
theorem di_e {x : Option ev_O} {f : Int32 → hp_T → Option ev_O} (hB : di x f = some o) : (∃ v h', x = some (.inl (some (.int v)), h') ∧ f v h' = some o) ∨ ∃ q h', x = some (.inr q, h') ∧ o = (.inr q, h') := by
  unfold di at hB
  split at hB
  · exact Or.inl ⟨_, _, rfl, hB⟩
  · exact Or.inr ⟨_, _, rfl, (Option.some.inj hB).symm⟩
  · cases hB
end Runs
