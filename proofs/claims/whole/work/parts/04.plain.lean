section PlainA
def sd_v (ad : List Nat) (v w : Value) : Prop := match v with
  | .int x => w = .int x
  | .null => w = .null
  | .ref j => ∃ a : Nat, ad[j]? = some a ∧ w = .ref a
  | _ => False
def sd_l (ad : List Nat) : List Value → List Value → Prop
  | [], [] => True
  | v :: l, w :: k => sd_v ad v w ∧ sd_l ad l k
  | _, _ => False
theorem sd_v_cat {ad : List Nat} {v w : Value} (h : sd_v ad v w) : w.category = 1 := by
  cases v with
  | int x => have h : w = .int x := h; subst h; rfl
  | null => have h : w = .null := h; subst h; rfl
  | ref j => obtain ⟨a, -, rfl⟩ := h; rfl
  | _ => exact False.elim h
theorem sd_v_mono {ad z : List Nat} {v w : Value} (h : sd_v ad v w) : sd_v (ad ++ z) v w := by
  cases v with
  | int x => exact h
  | null => exact h
  | ref j =>
    obtain ⟨a, ha, rfl⟩ := h
    exact ⟨a, by rw [List.getElem?_append_left (List.getElem?_eq_some_iff.mp ha).1]; exact ha, rfl⟩
  | _ => exact False.elim h
theorem sd_l_mono {ad z : List Nat} : ∀ {l k : List Value}, sd_l ad l k → sd_l (ad ++ z) l k
  | [], [], _ => trivial
  | _ :: _, _ :: _, h => ⟨sd_v_mono h.1, sd_l_mono h.2⟩
  | [], _ :: _, h => False.elim h
  | _ :: _, [], h => False.elim h
theorem sd_l_c {ad : List Nat} {v : Value} {l S : List Value} (h : sd_l ad (v :: l) S) : ∃ (w : Value) (K : List Value), S = w :: K ∧ sd_v ad v w ∧ sd_l ad l K := by
  cases S with
  | nil => exact False.elim h
  | cons w K => exact ⟨w, K, rfl, h.1, h.2⟩
theorem sd_l_n {ad : List Nat} {S : List Value} (h : sd_l ad [] S) : S = [] := by
  cases S with
  | nil => rfl
  | cons w K => exact False.elim h
theorem sd_l_i {ad : List Nat} {x : Int32} {l S : List Value} (h : sd_l ad (.int x :: l) S) : ∃ K : List Value, S = .int x :: K ∧ sd_l ad l K := by
  obtain ⟨w, K, rfl, h1, h2⟩ := sd_l_c h
  have h1 : w = .int x := h1
  subst h1
  exact ⟨K, rfl, h2⟩
theorem sd_l_r {ad : List Nat} {j : Nat} {l S : List Value} (h : sd_l ad (.ref j :: l) S) : ∃ (a : Nat) (K : List Value), ad[j]? = some a ∧ S = .ref a :: K ∧ sd_l ad l K := by
  obtain ⟨w, K, rfl, ⟨a, ha, rfl⟩, h2⟩ := sd_l_c h
  exact ⟨a, K, ha, rfl, h2⟩
theorem sd_l_len {ad : List Nat} : ∀ {l k : List Value}, sd_l ad l k → k.length = l.length
  | [], [], _ => rfl
  | _ :: _, _ :: _, h => by simp [sd_l_len h.2]
  | [], _ :: _, h => False.elim h
  | _ :: _, [], h => False.elim h
theorem sd_l_sum {ad : List Nat} : ∀ {l k : List Value}, sd_l ad l k → (k.map fun v => v.category).sum = l.length
  | [], [], _ => rfl
  | _ :: l, w :: k, h => by
    have h1 := sd_v_cat h.1
    have h2 := sd_l_sum h.2
    simp only [List.map_cons, List.sum_cons, List.length_cons]
    omega
  | [], _ :: _, h => False.elim h
  | _ :: _, [], h => False.elim h
theorem sd_l_app {ad : List Nat} : ∀ {l k l' k' : List Value}, sd_l ad l k → sd_l ad l' k' → sd_l ad (l ++ l') (k ++ k')
  | [], [], _, _, _, h' => h'
  | _ :: _, _ :: _, _, _, h, h' => ⟨h.1, sd_l_app h.2 h'⟩
  | [], _ :: _, _, _, h, _ => False.elim h
  | _ :: _, [], _, _, h, _ => False.elim h
theorem sd_l_split {ad : List Nat} : ∀ {l l' S : List Value}, sd_l ad (l ++ l') S → ∃ k k' : List Value, S = k ++ k' ∧ sd_l ad l k ∧ sd_l ad l' k'
  | [], _, S, h => ⟨[], S, rfl, trivial, h⟩
  | v :: l, l', S, h => by
    obtain ⟨w, K, rfl, h1, h2⟩ := sd_l_c (l := l ++ l') h
    obtain ⟨k, k', rfl, h3, h4⟩ := sd_l_split h2
    exact ⟨w :: k, k', rfl, ⟨h1, h3⟩, h4⟩
theorem sd_l_rev {ad : List Nat} : ∀ {l k : List Value}, sd_l ad l k → sd_l ad l.reverse k.reverse
  | [], [], _ => trivial
  | v :: l, w :: k, h => by
    rw [List.reverse_cons, List.reverse_cons]
    exact sd_l_app (sd_l_rev h.2) ⟨h.1, trivial⟩
  | [], _ :: _, h => False.elim h
  | _ :: _, [], h => False.elim h
-- locals: what is not null in L stands in ls
def sd_s (ad : List Nat) (nL : Nat) (L : List Value) (ls : Array Slot) : Prop := L.length = nL ∧ ∃ lst : List (Nat × Value), lv_has ls nL lst ∧ ∀ (i : Nat) (v : Value), L[i]? = some v → v ≠ .null → ∃ w : Value, sd_v ad v w ∧ (i, w) ∈ lst
theorem sd_s_mono {ad z : List Nat} {nL : Nat} {L : List Value} {ls : Array Slot} (h : sd_s ad nL L ls) : sd_s (ad ++ z) nL L ls := by
  obtain ⟨h1, lst, h2, h3⟩ := h
  refine ⟨h1, lst, h2, fun i v hi hv => ?_⟩
  obtain ⟨w, hw, hm⟩ := h3 i v hi hv
  exact ⟨w, sd_v_mono hw, hm⟩
theorem sd_s_i {ad : List Nat} {nL : Nat} {L : List Value} {ls : Array Slot} (h : sd_s ad nL L ls) {i : Nat} {x : Int32} (hi : L[i]? = some (.int x)) : ls[i]? = some (.val (.int x)) := by
  obtain ⟨_, lst, h2, h3⟩ := h
  obtain ⟨w, hw, hm⟩ := h3 i _ hi (by simp)
  have hw : w = .int x := hw
  subst hw
  exact h2.2.2 _ hm
theorem sd_s_r {ad : List Nat} {nL : Nat} {L : List Value} {ls : Array Slot} (h : sd_s ad nL L ls) {i j : Nat} (hi : L[i]? = some (.ref j)) : ∃ a : Nat, ad[j]? = some a ∧ ls[i]? = some (.val (.ref a)) := by
  obtain ⟨_, lst, h2, h3⟩ := h
  obtain ⟨w, ⟨a, ha, rfl⟩, hm⟩ := h3 i _ hi (by simp)
  exact ⟨a, ha, h2.2.2 _ hm⟩
theorem sd_s_set {ad : List Nat} {nL i : Nat} {L : List Value} {ls : Array Slot} {lst : List (Nat × Value)} {v w : Value} (h1 : L.length = nL) (h3 : ∀ (i : Nat) (v : Value), L[i]? = some v → v ≠ .null → ∃ w : Value, sd_v ad v w ∧ (i, w) ∈ lst) (hi : i < L.length) (hv : sd_v ad v w)
    (h : lv_has ls nL ((i, w) :: lst.filter (fun q => !(q.1 == i) && !(q.1 + 1 == i && q.2.category == 2)))) : sd_s ad nL (L.set i v) ls := by
  refine ⟨by simp [h1], _, h, fun j u hj hu => ?_⟩
  by_cases e : j = i
  · subst e
    rw [List.getElem?_set_self hi] at hj
    cases hj
    exact ⟨w, hv, List.mem_cons_self⟩
  · rw [List.getElem?_set_ne (fun q => e q.symm)] at hj
    obtain ⟨w2, hw2, hm⟩ := h3 j u hj hu
    exact ⟨w2, hw2, List.mem_cons_of_mem _ (List.mem_filter.mpr ⟨hm, by simp [e, sd_v_cat hw2]⟩)⟩
theorem ev_j_eq {pc t : Nat} {off : Int} (h : ev_j pc off = some t) : (pc : Int) + off = (t : Int) := by
  unfold ev_j at h
  split at h
  · cases h; omega
  · cases h
end PlainA
section PlainB
variable {p : Program} {l : Launch} {e : Env} {R : Room} {s : State} {m : MethodId} {args : Array Value} {below : List Frame} {meth : Method} {c : Code} {H : Heap} {locs : List Loc} {cells slots : Nat} {Q : State → Prop} {cc : ByteArray}
set_option maxHeartbeats 4000000 in
theorem sd_p (hx : p.tables.exec = Jvm.exec) (hb : c.code = cc) {ad : List Nat} {nL pc pc' : Nat} {i : Instr} {L L' st st' : List Value} (hs : ev_p i pc L st = some (pc', L', st')) {n : Nat} (hd : decode cc pc = .ok (i, n)) (hn : n = ev_len i ∨ ev_sw i = true) {ls : Array Slot} {S : List Value} (hl : sd_s ad nL L ls) (hS : sd_l ad st S)
    (k : ∀ (ls' : Array Slot) (S' : List Value), sd_s ad nL L' ls' → sd_l ad st' S' → W p l e R s m args below meth c H locs cells slots Q (F0 m pc' ls' S')) : W p l e R s m args below meth c H locs cells slots Q (F0 m pc ls S) := by
  cases i with
  | aconst_null =>
    have hn : n = 1 := by simpa [ev_len, ev_sw] using hn
    subst hn
    simp only [ev_p, Option.some.injEq, Prod.mk.injEq] at hs
    obtain ⟨rfl, rfl, rfl⟩ := hs
    exact lv_null hx hb hd (k _ _ hl ⟨rfl, hS⟩)
  | iconst z =>
    have hn : n = 1 := by simpa [ev_len, ev_sw] using hn
    subst hn
    simp only [ev_p, Option.some.injEq, Prod.mk.injEq] at hs
    obtain ⟨rfl, rfl, rfl⟩ := hs
    exact lv_iconst hx hb hd rfl (k _ _ hl ⟨rfl, hS⟩)
  | bipush z =>
    have hn : n = 2 := by simpa [ev_len, ev_sw] using hn
    subst hn
    simp only [ev_p, Option.some.injEq, Prod.mk.injEq] at hs
    obtain ⟨rfl, rfl, rfl⟩ := hs
    exact lv_bipush hx hb hd rfl (k _ _ hl ⟨rfl, hS⟩)
  | sipush z =>
    have hn : n = 3 := by simpa [ev_len, ev_sw] using hn
    subst hn
    simp only [ev_p, Option.some.injEq, Prod.mk.injEq] at hs
    obtain ⟨rfl, rfl, rfl⟩ := hs
    exact lv_sipush hx hb hd rfl (k _ _ hl ⟨rfl, hS⟩)
  | iload z =>
    have hn : n = 2 := by simpa [ev_len, ev_sw] using hn
    subst hn
    simp only [ev_p] at hs
    split at hs
    · rename_i x hz
      simp only [Option.some.injEq, Prod.mk.injEq] at hs
      obtain ⟨rfl, rfl, rfl⟩ := hs
      exact lv_iload hx hb hd (sd_s_i hl hz) (k _ _ hl ⟨rfl, hS⟩)
    · cases hs
  | iload_n z =>
    have hn : n = 1 := by simpa [ev_len, ev_sw] using hn
    subst hn
    simp only [ev_p] at hs
    split at hs
    · rename_i x hz
      simp only [Option.some.injEq, Prod.mk.injEq] at hs
      obtain ⟨rfl, rfl, rfl⟩ := hs
      exact lv_iload_n hx hb hd rfl (sd_s_i hl hz) (k _ _ hl ⟨rfl, hS⟩)
    · cases hs
  | aload z =>
    have hn : n = 2 := by simpa [ev_len, ev_sw] using hn
    subst hn
    simp only [ev_p] at hs
    split at hs
    · rename_i x hz
      simp only [Option.some.injEq, Prod.mk.injEq] at hs
      obtain ⟨rfl, rfl, rfl⟩ := hs
      obtain ⟨q, hq, hq2⟩ := sd_s_r hl hz
      exact lv_aload hx hb hd hq2 (k _ _ hl ⟨⟨q, hq, rfl⟩, hS⟩)
    · cases hs
  | aload_n z =>
    have hn : n = 1 := by simpa [ev_len, ev_sw] using hn
    subst hn
    simp only [ev_p] at hs
    split at hs
    · rename_i x hz
      simp only [Option.some.injEq, Prod.mk.injEq] at hs
      obtain ⟨rfl, rfl, rfl⟩ := hs
      obtain ⟨q, hq, hq2⟩ := sd_s_r hl hz
      exact lv_aload_n hx hb hd rfl hq2 (k _ _ hl ⟨⟨q, hq, rfl⟩, hS⟩)
    · cases hs
  | istore z =>
    have hn : n = 2 := by simpa [ev_len, ev_sw] using hn
    subst hn
    simp only [ev_p] at hs
    split at hs
    · rename_i x r
      split at hs
      · rename_i hz
        simp only [Option.some.injEq, Prod.mk.injEq] at hs
        obtain ⟨rfl, rfl, rfl⟩ := hs
        obtain ⟨h1, lst, h2, h3⟩ := hl
        obtain ⟨K, rfl, hK1⟩ := sd_l_i hS
        exact lv_istore hx hb hd h2 (h1 ▸ hz) rfl (fun ls2 hls => k _ _ (sd_s_set h1 h3 hz rfl hls) hK1)
      · cases hs
    · cases hs
  | istore_n z =>
    have hn : n = 1 := by simpa [ev_len, ev_sw] using hn
    subst hn
    simp only [ev_p] at hs
    split at hs
    · rename_i x r
      split at hs
      · rename_i hz
        simp only [Option.some.injEq, Prod.mk.injEq] at hs
        obtain ⟨rfl, rfl, rfl⟩ := hs
        obtain ⟨h1, lst, h2, h3⟩ := hl
        obtain ⟨K, rfl, hK2⟩ := sd_l_i hS
        exact lv_istore_n hx hb hd rfl h2 (h1 ▸ hz) rfl (fun ls2 hls => k _ _ (sd_s_set h1 h3 hz rfl hls) hK2)
      · cases hs
    · cases hs
  | astore z =>
    have hn : n = 2 := by simpa [ev_len, ev_sw] using hn
    subst hn
    simp only [ev_p] at hs
    split at hs
    · rename_i x r
      split at hs
      · rename_i hz
        simp only [Option.some.injEq, Prod.mk.injEq] at hs
        obtain ⟨rfl, rfl, rfl⟩ := hs
        obtain ⟨h1, lst, h2, h3⟩ := hl
        obtain ⟨q, K, hq, rfl, hK3⟩ := sd_l_r hS
        exact lv_astore hx hb hd h2 (h1 ▸ hz) rfl (fun ls2 hls => k _ _ (sd_s_set (v := .ref x) h1 h3 hz ⟨q, hq, rfl⟩ hls) hK3)
      · cases hs
    · cases hs
  | astore_n z =>
    have hn : n = 1 := by simpa [ev_len, ev_sw] using hn
    subst hn
    simp only [ev_p] at hs
    split at hs
    · rename_i x r
      split at hs
      · rename_i hz
        simp only [Option.some.injEq, Prod.mk.injEq] at hs
        obtain ⟨rfl, rfl, rfl⟩ := hs
        obtain ⟨h1, lst, h2, h3⟩ := hl
        obtain ⟨q, K, hq, rfl, hK4⟩ := sd_l_r hS
        exact lv_astore_n hx hb hd rfl h2 (h1 ▸ hz) rfl (fun ls2 hls => k _ _ (sd_s_set (v := .ref x) h1 h3 hz ⟨q, hq, rfl⟩ hls) hK4)
      · cases hs
    · cases hs
  | iinc z y =>
    have hn : n = 3 := by simpa [ev_len, ev_sw] using hn
    subst hn
    simp only [ev_p] at hs
    split at hs
    · rename_i x hz
      simp only [Option.some.injEq, Prod.mk.injEq] at hs
      obtain ⟨rfl, rfl, rfl⟩ := hs
      obtain ⟨h1, lst, h2, h3⟩ := hl
      obtain ⟨w, hw, hm⟩ := h3 _ _ hz (by simp)
      have hw : w = .int x := hw
      subst hw
      obtain ⟨j, hj⟩ := List.getElem?_of_mem hm
      have hlt : z < L.length := (List.getElem?_eq_some_iff.mp hz).1
      exact lv_iinc hx hb hd h2 hj rfl (h1 ▸ hlt) rfl (fun ls2 hls => k _ _ (sd_s_set h1 h3 hlt rfl hls) hS)
    · cases hs
  | iadd =>
    have hn : n = 1 := by simpa [ev_len, ev_sw] using hn
    subst hn
    simp only [ev_p] at hs
    split at hs
    · rename_i y x r
      simp only [Option.some.injEq, Prod.mk.injEq] at hs
      obtain ⟨rfl, rfl, rfl⟩ := hs
      obtain ⟨K, rfl, hK5⟩ := sd_l_i hS
      obtain ⟨K, rfl, hK6⟩ := sd_l_i hK5
      exact lv_iadd hx hb hd (k _ _ hl ⟨rfl, hK6⟩)
    · cases hs
  | isub =>
    have hn : n = 1 := by simpa [ev_len, ev_sw] using hn
    subst hn
    simp only [ev_p] at hs
    split at hs
    · rename_i y x r
      simp only [Option.some.injEq, Prod.mk.injEq] at hs
      obtain ⟨rfl, rfl, rfl⟩ := hs
      obtain ⟨K, rfl, hK7⟩ := sd_l_i hS
      obtain ⟨K, rfl, hK8⟩ := sd_l_i hK7
      exact lv_isub hx hb hd (k _ _ hl ⟨rfl, hK8⟩)
    · cases hs
  | imul =>
    have hn : n = 1 := by simpa [ev_len, ev_sw] using hn
    subst hn
    simp only [ev_p] at hs
    split at hs
    · rename_i y x r
      simp only [Option.some.injEq, Prod.mk.injEq] at hs
      obtain ⟨rfl, rfl, rfl⟩ := hs
      obtain ⟨K, rfl, hK9⟩ := sd_l_i hS
      obtain ⟨K, rfl, hK10⟩ := sd_l_i hK9
      exact lv_imul hx hb hd (k _ _ hl ⟨rfl, hK10⟩)
    · cases hs
  | iand =>
    have hn : n = 1 := by simpa [ev_len, ev_sw] using hn
    subst hn
    simp only [ev_p] at hs
    split at hs
    · rename_i y x r
      simp only [Option.some.injEq, Prod.mk.injEq] at hs
      obtain ⟨rfl, rfl, rfl⟩ := hs
      obtain ⟨K, rfl, hK11⟩ := sd_l_i hS
      obtain ⟨K, rfl, hK12⟩ := sd_l_i hK11
      exact lv_iand hx hb hd (k _ _ hl ⟨rfl, hK12⟩)
    · cases hs
  | ior =>
    have hn : n = 1 := by simpa [ev_len, ev_sw] using hn
    subst hn
    simp only [ev_p] at hs
    split at hs
    · rename_i y x r
      simp only [Option.some.injEq, Prod.mk.injEq] at hs
      obtain ⟨rfl, rfl, rfl⟩ := hs
      obtain ⟨K, rfl, hK13⟩ := sd_l_i hS
      obtain ⟨K, rfl, hK14⟩ := sd_l_i hK13
      exact lv_ior hx hb hd (k _ _ hl ⟨rfl, hK14⟩)
    · cases hs
  | ixor =>
    have hn : n = 1 := by simpa [ev_len, ev_sw] using hn
    subst hn
    simp only [ev_p] at hs
    split at hs
    · rename_i y x r
      simp only [Option.some.injEq, Prod.mk.injEq] at hs
      obtain ⟨rfl, rfl, rfl⟩ := hs
      obtain ⟨K, rfl, hK15⟩ := sd_l_i hS
      obtain ⟨K, rfl, hK16⟩ := sd_l_i hK15
      exact lv_ixor hx hb hd (k _ _ hl ⟨rfl, hK16⟩)
    · cases hs
  | ishl =>
    have hn : n = 1 := by simpa [ev_len, ev_sw] using hn
    subst hn
    simp only [ev_p] at hs
    split at hs
    · rename_i y x r
      simp only [Option.some.injEq, Prod.mk.injEq] at hs
      obtain ⟨rfl, rfl, rfl⟩ := hs
      obtain ⟨K, rfl, hK17⟩ := sd_l_i hS
      obtain ⟨K, rfl, hK18⟩ := sd_l_i hK17
      exact lv_ishl hx hb hd (k _ _ hl ⟨rfl, hK18⟩)
    · cases hs
  | ishr =>
    have hn : n = 1 := by simpa [ev_len, ev_sw] using hn
    subst hn
    simp only [ev_p] at hs
    split at hs
    · rename_i y x r
      simp only [Option.some.injEq, Prod.mk.injEq] at hs
      obtain ⟨rfl, rfl, rfl⟩ := hs
      obtain ⟨K, rfl, hK19⟩ := sd_l_i hS
      obtain ⟨K, rfl, hK20⟩ := sd_l_i hK19
      exact lv_ishr hx hb hd (k _ _ hl ⟨rfl, hK20⟩)
    · cases hs
  | iushr =>
    have hn : n = 1 := by simpa [ev_len, ev_sw] using hn
    subst hn
    simp only [ev_p] at hs
    split at hs
    · rename_i y x r
      simp only [Option.some.injEq, Prod.mk.injEq] at hs
      obtain ⟨rfl, rfl, rfl⟩ := hs
      obtain ⟨K, rfl, hK21⟩ := sd_l_i hS
      obtain ⟨K, rfl, hK22⟩ := sd_l_i hK21
      exact lv_iushr hx hb hd rfl (k _ _ hl ⟨rfl, hK22⟩)
    · cases hs
  | idiv =>
    have hn : n = 1 := by simpa [ev_len, ev_sw] using hn
    subst hn
    simp only [ev_p] at hs
    split at hs
    · rename_i y x r
      split at hs
      · cases hs
      · rename_i hz
        simp only [Option.some.injEq, Prod.mk.injEq] at hs
        obtain ⟨rfl, rfl, rfl⟩ := hs
        obtain ⟨K, rfl, hK23⟩ := sd_l_i hS
        obtain ⟨K, rfl, hK24⟩ := sd_l_i hK23
        exact lv_idiv hx hb hd hz (k _ _ hl ⟨rfl, hK24⟩)
    · cases hs
  | irem =>
    have hn : n = 1 := by simpa [ev_len, ev_sw] using hn
    subst hn
    simp only [ev_p] at hs
    split at hs
    · rename_i y x r
      split at hs
      · cases hs
      · rename_i hz
        simp only [Option.some.injEq, Prod.mk.injEq] at hs
        obtain ⟨rfl, rfl, rfl⟩ := hs
        obtain ⟨K, rfl, hK25⟩ := sd_l_i hS
        obtain ⟨K, rfl, hK26⟩ := sd_l_i hK25
        exact lv_irem hx hb hd hz (k _ _ hl ⟨rfl, hK26⟩)
    · cases hs
  | ineg =>
    have hn : n = 1 := by simpa [ev_len, ev_sw] using hn
    subst hn
    simp only [ev_p] at hs
    split at hs
    · rename_i x r
      simp only [Option.some.injEq, Prod.mk.injEq] at hs
      obtain ⟨rfl, rfl, rfl⟩ := hs
      obtain ⟨K, rfl, hK27⟩ := sd_l_i hS
      exact lv_ineg hx hb hd (k _ _ hl ⟨rfl, hK27⟩)
    · cases hs
  | i2b =>
    have hn : n = 1 := by simpa [ev_len, ev_sw] using hn
    subst hn
    simp only [ev_p] at hs
    split at hs
    · rename_i x r
      simp only [Option.some.injEq, Prod.mk.injEq] at hs
      obtain ⟨rfl, rfl, rfl⟩ := hs
      obtain ⟨K, rfl, hK28⟩ := sd_l_i hS
      exact lv_i2b hx hb hd rfl (k _ _ hl ⟨rfl, hK28⟩)
    · cases hs
  | i2s =>
    have hn : n = 1 := by simpa [ev_len, ev_sw] using hn
    subst hn
    simp only [ev_p] at hs
    split at hs
    · rename_i x r
      simp only [Option.some.injEq, Prod.mk.injEq] at hs
      obtain ⟨rfl, rfl, rfl⟩ := hs
      obtain ⟨K, rfl, hK29⟩ := sd_l_i hS
      exact lv_i2s hx hb hd rfl (k _ _ hl ⟨rfl, hK29⟩)
    · cases hs
  | i2c =>
    have hn : n = 1 := by simpa [ev_len, ev_sw] using hn
    subst hn
    simp only [ev_p] at hs
    split at hs
    · rename_i x r
      simp only [Option.some.injEq, Prod.mk.injEq] at hs
      obtain ⟨rfl, rfl, rfl⟩ := hs
      obtain ⟨K, rfl, hK30⟩ := sd_l_i hS
      exact lv_i2c hx hb hd rfl (k _ _ hl ⟨rfl, hK30⟩)
    · cases hs
  | dup =>
    have hn : n = 1 := by simpa [ev_len, ev_sw] using hn
    subst hn
    simp only [ev_p] at hs
    split at hs
    · rename_i v r
      simp only [Option.some.injEq, Prod.mk.injEq] at hs
      obtain ⟨rfl, rfl, rfl⟩ := hs
      obtain ⟨w, K, rfl, hw, hK31⟩ := sd_l_c hS
      exact lv_dup hx hb hd (sd_v_cat hw) (k _ _ hl ⟨hw, hw, hK31⟩)
    · cases hs
  | pop =>
    have hn : n = 1 := by simpa [ev_len, ev_sw] using hn
    subst hn
    simp only [ev_p] at hs
    split at hs
    · rename_i v r
      simp only [Option.some.injEq, Prod.mk.injEq] at hs
      obtain ⟨rfl, rfl, rfl⟩ := hs
      obtain ⟨w, K, rfl, hw, hK32⟩ := sd_l_c hS
      exact lv_pop hx hb hd (sd_v_cat hw) (k _ _ hl hK32)
    · cases hs
  | dup_x1 =>
    have hn : n = 1 := by simpa [ev_len, ev_sw] using hn
    subst hn
    simp only [ev_p] at hs
    split at hs
    · rename_i v u r
      simp only [Option.some.injEq, Prod.mk.injEq] at hs
      obtain ⟨rfl, rfl, rfl⟩ := hs
      obtain ⟨w, K, rfl, hw, hK33⟩ := sd_l_c hS
      obtain ⟨w2, K, rfl, hw2, hK34⟩ := sd_l_c hK33
      exact lv_dup_x1 hx hb hd (sd_v_cat hw) (sd_v_cat hw2) (k _ _ hl ⟨hw, hw2, hw, hK34⟩)
    · cases hs
  | dup2 =>
    have hn : n = 1 := by simpa [ev_len, ev_sw] using hn
    subst hn
    simp only [ev_p] at hs
    split at hs
    · rename_i v u r
      simp only [Option.some.injEq, Prod.mk.injEq] at hs
      obtain ⟨rfl, rfl, rfl⟩ := hs
      obtain ⟨w, K, rfl, hw, hK35⟩ := sd_l_c hS
      obtain ⟨w2, K, rfl, hw2, hK36⟩ := sd_l_c hK35
      exact lv_dup2_11 hx hb hd (sd_v_cat hw) (sd_v_cat hw2) (k _ _ hl ⟨hw, hw2, hw, hw2, hK36⟩)
    · cases hs
  | dup_x2 =>
    have hn : n = 1 := by simpa [ev_len, ev_sw] using hn
    subst hn
    simp only [ev_p] at hs
    split at hs
    · rename_i v u t r
      simp only [Option.some.injEq, Prod.mk.injEq] at hs
      obtain ⟨rfl, rfl, rfl⟩ := hs
      obtain ⟨w, K, rfl, hw, hK37⟩ := sd_l_c hS
      obtain ⟨w2, K, rfl, hw2, hK38⟩ := sd_l_c hK37
      obtain ⟨w3, K, rfl, hw3, hK39⟩ := sd_l_c hK38
      exact lv_dup_x2 hx hb hd (sd_v_cat hw) (sd_v_cat hw2) (sd_v_cat hw3) (k _ _ hl ⟨hw, hw2, hw3, hw, hK39⟩)
    · cases hs
  | goto off =>
    have hn : n = 3 := by simpa [ev_len, ev_sw] using hn
    subst hn
    simp only [ev_p] at hs
    split at hs
    · rename_i t ht
      simp only [Option.some.injEq, Prod.mk.injEq] at hs
      obtain ⟨rfl, rfl, rfl⟩ := hs
      exact lv_goto hx hb hd (ev_j_eq ht) (k _ _ hl hS)
    · cases hs
  | ifCond cnd off =>
    have hn : n = 3 := by simpa [ev_len, ev_sw] using hn
    subst hn
    simp only [ev_p] at hs
    split at hs
    · rename_i x r
      split at hs
      · rename_i t ht
        simp only [Option.some.injEq, Prod.mk.injEq] at hs
        obtain ⟨rfl, rfl, rfl⟩ := hs
        obtain ⟨K, rfl, hK40⟩ := sd_l_i hS
        cases cnd with
        | eq => exact lv_if_eq hx hb hd (ev_j_eq ht) (fun h9 => by have h8 := k _ _ hl hK40; simp only [ev_c, decide_eq_true_eq] at h8; rw [if_pos h9] at h8; exact h8) (fun h9 => by have h8 := k _ _ hl hK40; simp only [ev_c, decide_eq_true_eq] at h8; rw [if_neg (by simpa using h9)] at h8; exact h8)
        | ne => exact lv_if_ne hx hb hd (ev_j_eq ht) (fun h9 => by have h8 := k _ _ hl hK40; simp only [ev_c, decide_eq_true_eq] at h8; rw [if_pos h9] at h8; exact h8) (fun h9 => by have h8 := k _ _ hl hK40; simp only [ev_c, decide_eq_true_eq] at h8; rw [if_neg (by simpa using h9)] at h8; exact h8)
        | lt => exact lv_if_lt hx hb hd (ev_j_eq ht) (fun h9 => by have h8 := k _ _ hl hK40; simp only [ev_c, decide_eq_true_eq] at h8; rw [if_pos h9] at h8; exact h8) (fun h9 => by have h8 := k _ _ hl hK40; simp only [ev_c, decide_eq_true_eq] at h8; rw [if_neg (by simpa using h9)] at h8; exact h8)
        | ge => exact lv_if_ge hx hb hd (ev_j_eq ht) (fun h9 => by have h8 := k _ _ hl hK40; simp only [ev_c, decide_eq_true_eq] at h8; rw [if_pos h9] at h8; exact h8) (fun h9 => by have h8 := k _ _ hl hK40; simp only [ev_c, decide_eq_true_eq] at h8; rw [if_neg (by simpa using h9)] at h8; exact h8)
        | gt => exact lv_if_gt hx hb hd (ev_j_eq ht) (fun h9 => by have h8 := k _ _ hl hK40; simp only [ev_c, decide_eq_true_eq] at h8; rw [if_pos h9] at h8; exact h8) (fun h9 => by have h8 := k _ _ hl hK40; simp only [ev_c, decide_eq_true_eq] at h8; rw [if_neg (by simpa using h9)] at h8; exact h8)
        | le => exact lv_if_le hx hb hd (ev_j_eq ht) (fun h9 => by have h8 := k _ _ hl hK40; simp only [ev_c, decide_eq_true_eq] at h8; rw [if_pos h9] at h8; exact h8) (fun h9 => by have h8 := k _ _ hl hK40; simp only [ev_c, decide_eq_true_eq] at h8; rw [if_neg (by simpa using h9)] at h8; exact h8)
      · cases hs
    · cases hs
  | if_icmp cnd off =>
    have hn : n = 3 := by simpa [ev_len, ev_sw] using hn
    subst hn
    simp only [ev_p] at hs
    split at hs
    · rename_i y x r
      split at hs
      · rename_i t ht
        simp only [Option.some.injEq, Prod.mk.injEq] at hs
        obtain ⟨rfl, rfl, rfl⟩ := hs
        obtain ⟨K, rfl, hK41⟩ := sd_l_i hS
        obtain ⟨K, rfl, hK42⟩ := sd_l_i hK41
        cases cnd with
        | eq => exact lv_icmp_eq hx hb hd (ev_j_eq ht) (fun h9 => by have h8 := k _ _ hl hK42; simp only [ev_c, decide_eq_true_eq] at h8; rw [if_pos h9] at h8; exact h8) (fun h9 => by have h8 := k _ _ hl hK42; simp only [ev_c, decide_eq_true_eq] at h8; rw [if_neg (by simpa using h9)] at h8; exact h8)
        | ne => exact lv_icmp_ne hx hb hd (ev_j_eq ht) (fun h9 => by have h8 := k _ _ hl hK42; simp only [ev_c, decide_eq_true_eq] at h8; rw [if_pos h9] at h8; exact h8) (fun h9 => by have h8 := k _ _ hl hK42; simp only [ev_c, decide_eq_true_eq] at h8; rw [if_neg (by simpa using h9)] at h8; exact h8)
        | lt => exact lv_icmp_lt hx hb hd (ev_j_eq ht) (fun h9 => by have h8 := k _ _ hl hK42; simp only [ev_c, decide_eq_true_eq] at h8; rw [if_pos h9] at h8; exact h8) (fun h9 => by have h8 := k _ _ hl hK42; simp only [ev_c, decide_eq_true_eq] at h8; rw [if_neg (by simpa using h9)] at h8; exact h8)
        | ge => exact lv_icmp_ge hx hb hd (ev_j_eq ht) (fun h9 => by have h8 := k _ _ hl hK42; simp only [ev_c, decide_eq_true_eq] at h8; rw [if_pos h9] at h8; exact h8) (fun h9 => by have h8 := k _ _ hl hK42; simp only [ev_c, decide_eq_true_eq] at h8; rw [if_neg (by simpa using h9)] at h8; exact h8)
        | gt => exact lv_icmp_gt hx hb hd (ev_j_eq ht) (fun h9 => by have h8 := k _ _ hl hK42; simp only [ev_c, decide_eq_true_eq] at h8; rw [if_pos h9] at h8; exact h8) (fun h9 => by have h8 := k _ _ hl hK42; simp only [ev_c, decide_eq_true_eq] at h8; rw [if_neg (by simpa using h9)] at h8; exact h8)
        | le => exact lv_icmp_le hx hb hd (ev_j_eq ht) (fun h9 => by have h8 := k _ _ hl hK42; simp only [ev_c, decide_eq_true_eq] at h8; rw [if_pos h9] at h8; exact h8) (fun h9 => by have h8 := k _ _ hl hK42; simp only [ev_c, decide_eq_true_eq] at h8; rw [if_neg (by simpa using h9)] at h8; exact h8)
      · cases hs
    · cases hs
  | tableswitch dflt lo hi offs =>
    simp only [ev_p] at hs
    split at hs
    · rename_i x r
      obtain ⟨K, rfl, hK43⟩ := sd_l_i hS
      split at hs
      · rename_i hz
        split at hs
        · rename_i t ht
          simp only [Option.some.injEq, Prod.mk.injEq] at hs
          obtain ⟨rfl, rfl, rfl⟩ := hs
          exact lv_tableOut hx hb hd hz (ev_j_eq ht) (k _ _ hl hK43)
        · cases hs
      · rename_i hz
        split at hs
        · rename_i off ho
          split at hs
          · rename_i t ht
            simp only [Option.some.injEq, Prod.mk.injEq] at hs
            obtain ⟨rfl, rfl, rfl⟩ := hs
            exact lv_tableIn hx hb hd (fun q => hz (Or.inl q)) (fun q => hz (Or.inr q)) ho (ev_j_eq ht) (k _ _ hl hK43)
          · cases hs
        · cases hs
    · cases hs
  | lookupswitch dflt ps =>
    simp only [ev_p] at hs
    split at hs
    · rename_i x r
      obtain ⟨K, rfl, hK44⟩ := sd_l_i hS
      split at hs
      · rename_i hz
        split at hs
        · rename_i t ht
          simp only [Option.some.injEq, Prod.mk.injEq] at hs
          obtain ⟨rfl, rfl, rfl⟩ := hs
          exact lv_lookup hx hb hd hz rfl (ev_j_eq ht) (k _ _ hl hK44)
        · cases hs
      · cases hs
    · cases hs
  | _ => cases hs
end PlainB
