section HeapA
def sd_o (ad : List Nat) (x y : Option Nat) : Prop := match x with
  | none => y = none
  | some j => ∃ a : Nat, ad[j]? = some a ∧ y = some a
theorem sd_o_mono {ad z : List Nat} {x y : Option Nat} (h : sd_o ad x y) : sd_o (ad ++ z) x y := by
  cases x with
  | none => exact h
  | some j =>
    obtain ⟨a, ha, hy⟩ := h
    exact ⟨a, by rw [List.getElem?_append_left (List.getElem?_eq_some_iff.mp ha).1]; exact ha, hy⟩
theorem sd_o_v {ad : List Nat} {x y : Option Nat} (h : sd_o ad x y) : sd_v ad (va_rf x) (va_rf y) := by
  cases x with
  | none => have h : y = none := h; subst h; exact rfl
  | some j => obtain ⟨a, ha, rfl⟩ := h; exact ⟨a, ha, rfl⟩
-- a class's fields
def sd_f (ad : List Nat) (t : Nat) (z : Nat → Int32) (q : Nat → Option Nat) (fs : List Value) : Prop := ∀ k, k < tb_nf t → ∃ w : Value, fs[k]? = some w ∧ ((ev_rr (tb_ft t k) = true ∧ ∃ y : Option Nat, sd_o ad (q k) y ∧ w = va_rf y) ∨ (ev_rr (tb_ft t k) = false ∧ w = .int (z k)))
theorem sd_f_mono {ad z2 : List Nat} {t : Nat} {z : Nat → Int32} {q : Nat → Option Nat} {fs : List Value} (h : sd_f ad t z q fs) : sd_f (ad ++ z2) t z q fs := by
  intro k hk
  obtain ⟨w, h1, h2⟩ := h k hk
  rcases h2 with ⟨h2, y, h3, h4⟩ | h2
  · exact ⟨w, h1, Or.inl ⟨h2, y, sd_o_mono h3, h4⟩⟩
  · exact ⟨w, h1, Or.inr h2⟩
theorem sd_f_zw {ad : List Nat} {t k : Nat} {z : Nat → Int32} {q : Nat → Option Nat} {fs : List Value} {v : Int32} (h : sd_f ad t z q fs) (hr : ev_rr (tb_ft t k) = false) (hk : k < tb_nf t) : sd_f ad t (upd z k v) q (fs.set k (.int v)) := by
  intro j hj
  obtain ⟨w, h1, h2⟩ := h j hj
  by_cases e : j = k
  · subst e
    exact ⟨.int v, List.getElem?_set_self (List.getElem?_eq_some_iff.mp h1).1, Or.inr ⟨hr, by rw [pk_us]⟩⟩
  · refine ⟨w, by rw [List.getElem?_set_ne (fun q => e q.symm)]; exact h1, ?_⟩
    rw [pk_un e]
    exact h2
theorem sd_f_pw {ad : List Nat} {t k a j : Nat} {z : Nat → Int32} {q : Nat → Option Nat} {fs : List Value} (h : sd_f ad t z q fs) (hr : ev_rr (tb_ft t k) = true) (hk : k < tb_nf t) (ha : ad[j]? = some a) : sd_f ad t z (va_up q k (some j)) (fs.set k (.ref a)) := by
  intro i hi
  obtain ⟨w, h1, h2⟩ := h i hi
  by_cases e : i = k
  · subst e
    exact ⟨.ref a, List.getElem?_set_self (List.getElem?_eq_some_iff.mp h1).1, Or.inl ⟨hr, some a, by rw [va_up_self]; exact ⟨a, ha, rfl⟩, rfl⟩⟩
  · refine ⟨w, by rw [List.getElem?_set_ne (fun q => e q.symm)]; exact h1, ?_⟩
    rw [va_up_ne _ _ e]
    exact h2
-- a cell of the world
def sd_e (ad : List Nat) (tys : List (ClassId × FieldType)) (t n : Nat) (z : Nat → Int32) (q : Nat → Option Nat) (E : va_E) : Prop :=
  (t < 64 ∧ ∃ fs : List Value, E = .inr (t, fs) ∧ sd_f ad t z q fs) ∨
  (64 ≤ t ∧ t < 100 ∧ ∃ cA : ClassId, E = .inl (cA, n, .inl z) ∧ (cA, ev_ty t) ∈ tys ∧ ∀ k, fits (ev_ty t) (.int (z k)) = true) ∨
  (100 ≤ t ∧ ∃ (cA : ClassId) (f : Nat → Option Nat), E = .inl (cA, n, .inr (.inr (.inr (.inr f)))) ∧ (cA, .object (ev_cn (t - 100))) ∈ tys ∧ ∀ k, sd_o ad (q k) (f k))
theorem sd_e_mono {ad z2 : List Nat} {tys t2 : List (ClassId × FieldType)} {t n : Nat} {z : Nat → Int32} {q : Nat → Option Nat} {E : va_E} (h : sd_e ad tys t n z q E) : sd_e (ad ++ z2) (tys ++ t2) t n z q E := by
  rcases h with ⟨h1, fs, h2, h3⟩ | ⟨h1, h2, cA, h3, h4, h5⟩ | ⟨h1, cA, f, h3, h4, h5⟩
  · exact Or.inl ⟨h1, fs, h2, sd_f_mono h3⟩
  · exact Or.inr (Or.inl ⟨h1, h2, cA, h3, List.mem_append_left _ h4, h5⟩)
  · exact Or.inr (Or.inr ⟨h1, cA, f, h3, List.mem_append_left _ h4, fun k => sd_o_mono (h5 k)⟩)
theorem sd_e_o {ad : List Nat} {tys : List (ClassId × FieldType)} {t n : Nat} {z : Nat → Int32} {q : Nat → Option Nat} {E : va_E} (h : sd_e ad tys t n z q E) (ht : t < 64) : ∃ fs : List Value, E = .inr (t, fs) ∧ sd_f ad t z q fs := by
  rcases h with ⟨h1, h2⟩ | ⟨h1, h2⟩ | ⟨h1, h2⟩
  · exact h2
  · omega
  · omega
theorem sd_e_a {ad : List Nat} {tys : List (ClassId × FieldType)} {t n : Nat} {z : Nat → Int32} {q : Nat → Option Nat} {E : va_E} (h : sd_e ad tys t n z q E) (h0 : 64 ≤ t) (ht : t < 100) : ∃ cA : ClassId, E = .inl (cA, n, .inl z) ∧ (cA, ev_ty t) ∈ tys ∧ ∀ k, fits (ev_ty t) (.int (z k)) = true := by
  rcases h with ⟨h1, h2⟩ | ⟨h1, h2, h3⟩ | ⟨h1, h2⟩
  · omega
  · exact h3
  · omega
theorem sd_e_q {ad : List Nat} {tys : List (ClassId × FieldType)} {t n : Nat} {z : Nat → Int32} {q : Nat → Option Nat} {E : va_E} (h : sd_e ad tys t n z q E) (h0 : 100 ≤ t) : ∃ (cA : ClassId) (f : Nat → Option Nat), E = .inl (cA, n, .inr (.inr (.inr (.inr f)))) ∧ (cA, .object (ev_cn (t - 100))) ∈ tys ∧ ∀ k, sd_o ad (q k) (f k) := by
  rcases h with ⟨h1, h2⟩ | ⟨h1, h2, h3⟩ | ⟨h1, h2⟩
  · omega
  · omega
  · exact h2
-- the world: cells in the order of their making
def sd_r (ad : List Nat) (h : hp_T) (tys : List (ClassId × FieldType)) (ws : va_W) : Prop := ws.length = h.1.length ∧ ad.length = h.1.length ∧ ∀ i t n : Nat, hp_k h i = some (t, n) → ∃ (a : Nat) (E : va_E), ad[i]? = some a ∧ ws[i]? = some (a, E) ∧ sd_e ad tys t n (hp_z h i) (hp_p h i) E
def sd_w (D : va_G) (A : Nat → Prop) (ad : List Nat) (h : hp_T) (U : State) (H : Heap) : Prop := ∃ (ws : va_W) (tys : List (ClassId × FieldType)), va_K D vwCl tys U ∧ va_P D vwCl ws H ∧ va_D A ws ∧ sd_r ad h tys ws
theorem sd_r_set {ad : List Nat} {h h2 : hp_T} {tys : List (ClassId × FieldType)} {ws : va_W} (hr : sd_r ad h tys ws) {i t n a : Nat} {E : va_E} (hi : hp_k h i = some (t, n)) (ha : ad[i]? = some a) (hE : sd_e ad tys t n (hp_z h2 i) (hp_p h2 i) E) (h1 : h2.1 = h.1) (hz : ∀ j, j ≠ i → hp_z h2 j = hp_z h j) (hp : ∀ j, j ≠ i → hp_p h2 j = hp_p h j) : sd_r ad h2 tys (ws.set i (a, E)) := by
  obtain ⟨hlw, hla, hr⟩ := hr
  refine ⟨by simp [hlw, h1], by rw [hla, h1], fun j t2 n2 hj => ?_⟩
  have hj : hp_k h j = some (t2, n2) := by
    unfold hp_k at hj ⊢
    rw [← h1]; exact hj
  by_cases e : j = i
  · subst e
    rw [hi] at hj
    cases hj
    exact ⟨a, E, ha, List.getElem?_set_self (by rw [hlw, ← hla]; exact (List.getElem?_eq_some_iff.mp ha).1), hE⟩
  · obtain ⟨b, E2, h3, h4, h5⟩ := hr j t2 n2 hj
    exact ⟨b, E2, h3, by rw [List.getElem?_set_ne (fun q => e q.symm)]; exact h4, by rw [hz j e, hp j e]; exact h5⟩
theorem sd_r_new {ad : List Nat} {h : hp_T} {tys t2 : List (ClassId × FieldType)} {ws : va_W} (hr : sd_r ad h tys ws) {t n w a : Nat} {E : va_E} (hE : sd_e (ad ++ [a]) (tys ++ t2) t n (fun _ => 0) (fun _ => none) E) : sd_r (ad ++ [a]) (hp_new h t n w) (tys ++ t2) (ws ++ [(a, E)]) := by
  obtain ⟨hlw, hla, hr⟩ := hr
  refine ⟨by simp [hlw, hp_new], by simp [hla, hp_new], fun j t9 n9 hj => ?_⟩
  unfold hp_k hp_new at hj
  dsimp only at hj
  by_cases e : j = h.1.length
  · subst e
    rw [List.getElem?_append_right (Nat.le_refl _)] at hj
    simp only [Nat.sub_self, List.getElem?_cons_zero, Option.some.injEq, Prod.mk.injEq] at hj
    obtain ⟨rfl, rfl⟩ := hj
    refine ⟨a, E, ?_, ?_, ?_⟩
    · rw [← hla, List.getElem?_append_right (Nat.le_refl _)]; simp
    · rw [← hlw, List.getElem?_append_right (Nat.le_refl _)]; simp
    · have e1 : hp_z (hp_new h t n w) h.1.length = fun _ => 0 := by unfold hp_z hp_new; exact va_up_self _ _ _
      have e2 : hp_p (hp_new h t n w) h.1.length = fun _ => none := by unfold hp_p hp_new; exact va_up_self _ _ _
      rw [e1, e2]; exact hE
  · have hlt : j < h.1.length := by
      have h9 := (List.getElem?_eq_some_iff.mp hj).1
      simp only [List.length_append, List.length_cons, List.length_nil] at h9
      omega
    rw [List.getElem?_append_left hlt] at hj
    obtain ⟨b, E2, h3, h4, h5⟩ := hr j t9 n9 hj
    have e1 : hp_z (hp_new h t n w) j = hp_z h j := by unfold hp_z hp_new; exact va_up_ne _ _ e
    have e2 : hp_p (hp_new h t n w) j = hp_p h j := by unfold hp_p hp_new; exact va_up_ne _ _ e
    refine ⟨b, E2, ?_, ?_, ?_⟩
    · rw [List.getElem?_append_left (by rw [hla]; exact hlt)]; exact h3
    · rw [List.getElem?_append_left (by rw [hlw]; exact hlt)]; exact h4
    · rw [e1, e2]; exact sd_e_mono h5
theorem ev_in_of {j : Int32} {n : Nat} (h : ev_in j n = true) : vp_in j n := by
  unfold ev_in at h
  simp only [Bool.not_eq_true', Bool.or_eq_false_iff, decide_eq_false_iff_not] at h
  exact fun q => q.elim h.1 h.2
theorem ev_fitN (t : Nat) (x : Int32) : fits (ev_ty t) (.int (vp_nar (ev_ty t) x)) = true := by
  unfold ev_ty
  split
  · rw [vp_nar_byte]; exact pk_fb x
  · split
    · show (x &&& 1 == 0 || x &&& 1 == 1) = true
      obtain ⟨j, hj, e⟩ := pk_andE x (m := 1) 1 (by decide)
      rw [e]
      rcases (show j = 0 ∨ j = 1 by omega) with rfl | rfl <;> decide
    · rfl
theorem ev_fit0 (t : Nat) : fits (ev_ty t) (.int 0) = true := by
  unfold ev_ty
  split
  · decide
  · split
    · decide
    · rfl
-- what the tables say of a link, an instruction at a time
def sd_F (Ts : List Jvm.Cond) (own : String) (args : Array Value) (s : State) (x ci fk : Nat) : Prop := ∃ (C : String) (T : u_T) (N : Nat) (ref : String), vwCl[ci]? = some (C, T, N) ∧ fk < N ∧ (∀ w ∈ u_ws C T N, w ∈ Ts) ∧ ((Jvm.Cond.fieldLink own x ref (T fk).2.1 (T fk).2.2.1).before args s = true ∨ ∃ host : String, (Jvm.Cond.fieldLinkNest own x ref (T fk).2.1 (T fk).2.2.1 host).before args s = true) ∧ (∀ q, s.fieldFound? (T fk).1 (T fk).2.1 (T fk).2.2.1 = some q → s.fieldFound? ref (T fk).2.1 (T fk).2.2.1 = some q)
def sd_G (Ts : List Jvm.Cond) (own : String) (args : Array Value) (s : State) (nm : String) (x ci fk : Nat) : Prop := ∃ (C : String) (T : u_T) (N : Nat) (ref : String), vwCl[ci]? = some (C, T, N) ∧ fk < N ∧ (∀ w ∈ u_ws C T N, w ∈ Ts) ∧ (((T fk).2.2.2 = false ∧ ((Jvm.Cond.fieldLink own x ref (T fk).2.1 (T fk).2.2.1).before args s = true ∨ ∃ host : String, (Jvm.Cond.fieldLinkNest own x ref (T fk).2.1 (T fk).2.2.1 host).before args s = true)) ∨ ((T fk).2.2.2 = true ∧ nm = "<init>" ∧ (T fk).1 = own ∧ (Jvm.Cond.fieldLink own x ref (T fk).2.1 (T fk).2.2.1).before args s = true)) ∧ (∀ q, s.fieldFound? (T fk).1 (T fk).2.1 (T fk).2.2.1 = some q → s.fieldFound? ref (T fk).2.1 (T fk).2.2.1 = some q)
def sd_N (Ts : List Jvm.Cond) (own : String) (args : Array Value) (s : State) (x ci n : Nat) : Prop := ∃ (C : String) (T : u_T), vwCl[ci]? = some (C, T, n) ∧ (∀ w ∈ u_ws C T n, w ∈ Ts) ∧ (Jvm.Cond.classLink own x C).before args s = true ∧ (Jvm.Cond.instantiable C n).before args s = true ∧ (Jvm.Cond.initialized C).before args s = true
def sd_A (own : String) (args : Array Value) (s : State) (x ci : Nat) : Prop := ∃ (C : String) (T : u_T) (N : Nat), vwCl[ci]? = some (C, T, N) ∧ (Jvm.Cond.classLink own x C).before args s = true ∧ va_AO C s
def sd_J (own : String) (args : Array Value) (s : State) (x : Nat) : Prop := (Jvm.Cond.methodLink own x Lib.objectInit).before args s = true ∧ (Jvm.Cond.instanceMethod Lib.objectInit).before args s = true ∧ (Jvm.Cond.code Lib.objectInit ⟨#[0xb1]⟩ 1 none).before args s = true
def sd_Y (own : String) (args : Array Value) (s : State) (x : Nat) : Prop := (Jvm.Cond.methodLink own x arraycopyName).before args s = true ∧ (Jvm.Cond.native arraycopyName).before args s = true ∧ (Jvm.Cond.static arraycopyName).before args s = true ∧ (Jvm.Cond.initialized "java/lang/System").before args s = true
def sd_M (y : MethodName) (b : ByteArray) (own : String) (args : Array Value) (s : State) (x : Nat) : Prop := (Jvm.Cond.methodLink own x y).before args s = true ∧ (Jvm.Cond.static y).before args s = true ∧ (Jvm.Cond.initialized "java/lang/Math").before args s = true ∧ (Jvm.Cond.code y b 2 (some .int)).before args s = true
def sd_i (Ts : List Jvm.Cond) (own : String) (rs : Nat → ev_R) (args : Array Value) (s : State) (nm : String) (i : Instr) : Prop := match i with
  | .ldc x => (rs x).1 = 4 → (Jvm.Cond.constant own x (rs x).2.2.2).before args s = true
  | .ldc_w x => (rs x).1 = 4 → (Jvm.Cond.constant own x (rs x).2.2.2).before args s = true
  | .getfield x => (rs x).1 = 1 → sd_F Ts own args s x (rs x).2.1 (rs x).2.2.1
  | .putfield x => (rs x).1 = 1 → sd_G Ts own args s nm x (rs x).2.1 (rs x).2.2.1
  | .newarray y => (Jvm.Cond.arrayClass (newarray.typeOf y)).before args s = true
  | .anewarray x => (rs x).1 = 3 → sd_A own args s x (rs x).2.1
  | .new x => (rs x).1 = 3 → sd_N Ts own args s x (rs x).2.1 (rs x).2.2.1
  | .invokespecial x => (rs x).1 = 8 → sd_J own args s x
  | .invokestatic x => ((rs x).1 = 5 → sd_Y own args s x) ∧ ((rs x).1 = 6 → sd_M Lib.Math.max.name Lib.Math.max.code own args s x) ∧ ((rs x).1 = 7 → sd_M Lib.Math.min.name Lib.Math.min.code own args s x)
  | _ => True
-- what is known of the classes
def sd_cl : Prop := ∀ (ci : Nat) (C : String) (T : u_T) (N : Nat), vwCl[ci]? = some (C, T, N) → ci < 64 ∧ tb_nf ci = N ∧ (∀ k, k < N → parseFieldDescriptor (T k).2.2.1 = some (tb_ft ci k)) ∧ (∀ a, a < N → ∀ b, b < N → a ≠ b → (T a).2.1 ≠ (T b).2.1) ∧ (∀ k, k < N → ev_rr (tb_ft ci k) = true ∨ defaultValue (tb_ft ci k) = .int 0)
end HeapA
