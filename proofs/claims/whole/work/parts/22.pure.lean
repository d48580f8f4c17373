-- a run of the evaluator, at some depth with some fuel
def pr_ (k : Nat) (as : List Value) (h : hp_T) (o : ev_O) : Prop := ∃ d f : Nat, ev_m d f k as h = some o
-- a call on the class and the same call on the reference: void, int (or boolean)
def pu_v (kC kM : Nat) (cd : Nat → Option Int32) (as : List Value) (h : hp_T) (J : hp_T → Prop) : Prop := ∃ (o : ev_O) (h2 : hp_T) (r : Int32), pr_ kC (.ref 0 :: as) h o ∧ o.2.1 = h.1 ∧ ((o.1 = .inl none ∧ r = 0) ∨ ∃ q, o.1 = .inr q ∧ cd q = some r) ∧ pr_ kM (.ref 52 :: as) o.2 (.inl none, h2) ∧ h2.1 = h.1 ∧ pr_ 74 [.ref 52] h2 (.inl (some (.int r)), h2) ∧ J h2
def pu_i (bo : Bool) (kC kM : Nat) (cd : Nat → Option Int32) (as : List Value) (h : hp_T) (J : hp_T → Prop) : Prop := ∃ (o : ev_O) (h2 : hp_T) (r b : Int32), pr_ kC (.ref 0 :: as) h o ∧ o.2.1 = h.1 ∧ ((o.1 = .inl (some (.int b)) ∧ r = 0 ∧ (bo = true → b = 0 ∨ b = 1)) ∨ ∃ q, o.1 = .inr q ∧ cd q = some r) ∧ pr_ kM (.ref 52 :: as) o.2 (.inl (some (.int b)), h2) ∧ h2.1 = h.1 ∧ pr_ 74 [.ref 52] h2 (.inl (some (.int r)), h2) ∧ J h2
def pu_d (kC kM : Nat) (as : List Value) (h : hp_T) (J : hp_T → Prop) : Prop := ∃ (h1 h2 : hp_T) (v : Int32), pr_ kC (.ref 0 :: as) h (.inl (some (.int v)), h1) ∧ h1.1 = h.1 ∧ pr_ kM (.ref 52 :: as) h1 (.inl (some (.int v)), h2) ∧ h2.1 = h.1 ∧ J h2
theorem sw_Qm {l : Launch} {y : MethodName} {ws : List Jvm.Cond} {rm : Room} {Pc : Array Value → State → Prop} {D : va_G} {ad : List Nat} {h : hp_T} {qo sz mc ms : Nat} {r : Int32} {g g2 : (Nat → Int64) → Prop} {free : Addr → Prop} (hM : Met l y ws rm Pc (sw_Q D ad h qo sz r g) mc ms free) (hg : ∀ f, g f → g2 f) : Met l y ws rm Pc (sw_Q D ad h qo sz r g2) mc ms free := by
  refine MetFree.mono hM (fun _ _ h => h) (fun _ _ _ _ _ h => h) (fun a st o t _ hq => ?_)
  obtain ⟨⟨f, h1, h2⟩, h3⟩ := hq
  exact ⟨⟨f, hg f h1, h2⟩, h3⟩
theorem sw_good2 {k : Nat} (hc : Jvm.Cond.code (tb_y k) (tb_b k) (tb_ml k) (tb_rt k) ∈ tb_all) : GoodIn tb_all (sd_ws k) := by
  intro w hw
  have h8 : w ∈ tb_all := by
    rcases List.mem_cons.mp hw with rfl | h
    · exact hc
    · exact h
  exact ⟨h8, good_of_word (List.mem_filter.mp h8).2⟩
def cd_port : Nat → Option Int32 := fun q => if q = 0 then some 1 else if q = 1 then some 2 else none
theorem wo_port {l : Launch} (hlt : l.stackTraces = false) (D : va_G) {ad : List Nat} {h : hp_T} {qa qo sz : Nat} {p0 p1 p2 r : Int32} {f : Nat → Int64} {o : ev_O} (hev : pr_ 47 [.ref 0, .int p0, .int p1, .int p2] h o) (hk0 : hp_k h 0 = some (7, 0)) (hqa : ad[0]? = some qa) (hkd : o.2.1 = h.1) {mc ms : Nat} (hmc : mc + hp_c h = hp_c o.2) (hms : ms + hp_s h = hp_s o.2) (ho : (o.1 = .inl none ∧ r = 0) ∨ ∃ q, o.1 = .inr q ∧ cd_port q = some r) : Met l yw_port ww_port (sw_rm 47 mc ms) (sw_P D ad h qo f sz [.ref qa, .int p0, .int p1, .int p2]) (sw_Q D ad o.2 qo sz r (fun _ => True)) mc ms (sd_fr (qo :: ad) sz) := by
  obtain ⟨d, f0, hev⟩ := hev
  rcases ho with ⟨h1, rfl⟩ | ⟨q, h1, h2⟩
  · exact sw_Qm (wr_port hlt D hev hk0 hqa hkd hmc hms h1) (fun _ h9 => trivial)
  · unfold cd_port at h2
    split at h2
    · rename_i e9
      subst e9
      cases h2
      exact sw_Qm (wt_port_0 hlt D hev hk0 hqa hkd hmc hms h1) (fun _ _ => trivial)
    · skip
      split at h2
      · rename_i e9
        subst e9
        cases h2
        exact sw_Qm (wt_port_1 hlt D hev hk0 hqa hkd hmc hms h1) (fun _ _ => trivial)
      · cases h2
def cd_up : Nat → Option Int32 := fun q => if q = 0 then some 1 else none
theorem wo_up {l : Launch} (hlt : l.stackTraces = false) (D : va_G) {ad : List Nat} {h : hp_T} {qa qo sz : Nat} {p0 p1 r b : Int32} {f : Nat → Int64} {o : ev_O} (hev : pr_ 48 [.ref 0, .int p0, .int p1] h o) (hk0 : hp_k h 0 = some (7, 0)) (hqa : ad[0]? = some qa) (hkd : o.2.1 = h.1) {mc ms : Nat} (hmc : mc + hp_c h = hp_c o.2) (hms : ms + hp_s h = hp_s o.2) (ho : (o.1 = .inl (some (.int b)) ∧ r = 0 ∧ (b = 0 ∨ b = 1)) ∨ ∃ q, o.1 = .inr q ∧ cd_up q = some r) : Met l yw_up ww_up (sw_rm 48 mc ms) (sw_P D ad h qo f sz [.ref qa, .int p0, .int p1, .ref qo]) (sw_Q D ad o.2 qo sz r (fun f2 => r = 0 → f2 0 = b.toInt64)) mc ms (sd_fr (qo :: ad) sz) := by
  obtain ⟨d, f0, hev⟩ := hev
  rcases ho with ⟨h1, rfl, h3⟩ | ⟨q, h1, h2⟩
  · exact sw_Qm (wr_up hlt D hev hk0 hqa hkd hmc hms h3 h1) (fun _ h9 => fun _ => h9)
  · unfold cd_up at h2
    split at h2
    · rename_i e9
      subst e9
      cases h2
      exact sw_Qm (wt_up_0 hlt D hev hk0 hqa hkd hmc hms h1) (fun _ _ => fun h9 => absurd h9 (by decide))
    · cases h2
def cd_route : Nat → Option Int32 := fun q => if q = 1 then some 1 else if q = 0 then some 2 else if q = 2 then some 3 else none
theorem wo_route {l : Launch} (hlt : l.stackTraces = false) (D : va_G) {ad : List Nat} {h : hp_T} {qa qo sz : Nat} {p0 p1 p2 p3 r b : Int32} {f : Nat → Int64} {o : ev_O} (hev : pr_ 49 [.ref 0, .int p0, .int p1, .int p2, .int p3] h o) (hk0 : hp_k h 0 = some (7, 0)) (hqa : ad[0]? = some qa) (hkd : o.2.1 = h.1) {mc ms : Nat} (hmc : mc + hp_c h = hp_c o.2) (hms : ms + hp_s h = hp_s o.2) (ho : (o.1 = .inl (some (.int b)) ∧ r = 0) ∨ ∃ q, o.1 = .inr q ∧ cd_route q = some r) : Met l yw_route ww_route (sw_rm 49 mc ms) (sw_P D ad h qo f sz [.ref qa, .int p0, .int p1, .int p2, .int p3, .ref qo]) (sw_Q D ad o.2 qo sz r (fun f2 => r = 0 → f2 0 = b.toInt64)) mc ms (sd_fr (qo :: ad) sz) := by
  obtain ⟨d, f0, hev⟩ := hev
  rcases ho with ⟨h1, rfl⟩ | ⟨q, h1, h2⟩
  · exact sw_Qm (wr_route hlt D hev hk0 hqa hkd hmc hms h1) (fun _ h9 => fun _ => h9)
  · unfold cd_route at h2
    split at h2
    · rename_i e9
      subst e9
      cases h2
      exact sw_Qm (wt_route_1 hlt D hev hk0 hqa hkd hmc hms h1) (fun _ _ => fun h9 => absurd h9 (by decide))
    · skip
      split at h2
      · rename_i e9
        subst e9
        cases h2
        exact sw_Qm (wt_route_0 hlt D hev hk0 hqa hkd hmc hms h1) (fun _ _ => fun h9 => absurd h9 (by decide))
      · skip
        split at h2
        · rename_i e9
          subst e9
          cases h2
          exact sw_Qm (wt_route_2 hlt D hev hk0 hqa hkd hmc hms h1) (fun _ _ => fun h9 => absurd h9 (by decide))
        · cases h2
def cd_unroute : Nat → Option Int32 := fun q => if q = 1 then some 1 else none
theorem wo_unroute {l : Launch} (hlt : l.stackTraces = false) (D : va_G) {ad : List Nat} {h : hp_T} {qa qo sz : Nat} {p0 p1 r b : Int32} {f : Nat → Int64} {o : ev_O} (hev : pr_ 50 [.ref 0, .int p0, .int p1] h o) (hk0 : hp_k h 0 = some (7, 0)) (hqa : ad[0]? = some qa) (hkd : o.2.1 = h.1) {mc ms : Nat} (hmc : mc + hp_c h = hp_c o.2) (hms : ms + hp_s h = hp_s o.2) (ho : (o.1 = .inl (some (.int b)) ∧ r = 0 ∧ (b = 0 ∨ b = 1)) ∨ ∃ q, o.1 = .inr q ∧ cd_unroute q = some r) : Met l yw_unroute ww_unroute (sw_rm 50 mc ms) (sw_P D ad h qo f sz [.ref qa, .int p0, .int p1, .ref qo]) (sw_Q D ad o.2 qo sz r (fun f2 => r = 0 → f2 0 = b.toInt64)) mc ms (sd_fr (qo :: ad) sz) := by
  obtain ⟨d, f0, hev⟩ := hev
  rcases ho with ⟨h1, rfl, h3⟩ | ⟨q, h1, h2⟩
  · exact sw_Qm (wr_unroute hlt D hev hk0 hqa hkd hmc hms h3 h1) (fun _ h9 => fun _ => h9)
  · unfold cd_unroute at h2
    split at h2
    · rename_i e9
      subst e9
      cases h2
      exact sw_Qm (wt_unroute_1 hlt D hev hk0 hqa hkd hmc hms h1) (fun _ _ => fun h9 => absurd h9 (by decide))
    · cases h2
def cd_lookup : Nat → Option Int32 := fun q => if q = 1 then some 1 else none
theorem wo_lookup {l : Launch} (hlt : l.stackTraces = false) (D : va_G) {ad : List Nat} {h : hp_T} {qa qo sz : Nat} {p0 p1 r b : Int32} {f : Nat → Int64} {o : ev_O} (hev : pr_ 51 [.ref 0, .int p0, .int p1] h o) (hk0 : hp_k h 0 = some (7, 0)) (hqa : ad[0]? = some qa) (hkd : o.2.1 = h.1) {mc ms : Nat} (hmc : mc + hp_c h = hp_c o.2) (hms : ms + hp_s h = hp_s o.2) (ho : (o.1 = .inl (some (.int b)) ∧ r = 0) ∨ ∃ q, o.1 = .inr q ∧ cd_lookup q = some r) : Met l yw_lookup ww_lookup (sw_rm 51 mc ms) (sw_P D ad h qo f sz [.ref qa, .int p0, .int p1, .ref qo]) (sw_Q D ad o.2 qo sz r (fun f2 => r = 0 → f2 0 = b.toInt64)) mc ms (sd_fr (qo :: ad) sz) := by
  obtain ⟨d, f0, hev⟩ := hev
  rcases ho with ⟨h1, rfl⟩ | ⟨q, h1, h2⟩
  · exact sw_Qm (wr_lookup hlt D hev hk0 hqa hkd hmc hms h1) (fun _ h9 => fun _ => h9)
  · unfold cd_lookup at h2
    split at h2
    · rename_i e9
      subst e9
      cases h2
      exact sw_Qm (wt_lookup_1 hlt D hev hk0 hqa hkd hmc hms h1) (fun _ _ => fun h9 => absurd h9 (by decide))
    · cases h2
def cd_feed : Nat → Option Int32 := fun q => if q = 3 then some 1 else none
theorem wo_feed {l : Launch} (hlt : l.stackTraces = false) (D : va_G) {ad : List Nat} {h : hp_T} {qa qo sz : Nat} {p0 p1 p2 p3 p4 r b : Int32} {f : Nat → Int64} {o : ev_O} (hev : pr_ 52 [.ref 0, .int p0, .int p1, .int p2, .int p3, .int p4] h o) (hk0 : hp_k h 0 = some (7, 0)) (hqa : ad[0]? = some qa) (hkd : o.2.1 = h.1) {mc ms : Nat} (hmc : mc + hp_c h = hp_c o.2) (hms : ms + hp_s h = hp_s o.2) (ho : (o.1 = .inl (some (.int b)) ∧ r = 0) ∨ ∃ q, o.1 = .inr q ∧ cd_feed q = some r) : Met l yw_feed ww_feed (sw_rm 52 mc ms) (sw_P D ad h qo f sz [.ref qa, .int p0, .int p1, .int p2, .int p3, .int p4, .ref qo]) (sw_Q D ad o.2 qo sz r (fun f2 => r = 0 → f2 0 = b.toInt64)) mc ms (sd_fr (qo :: ad) sz) := by
  obtain ⟨d, f0, hev⟩ := hev
  rcases ho with ⟨h1, rfl⟩ | ⟨q, h1, h2⟩
  · exact sw_Qm (wr_feed hlt D hev hk0 hqa hkd hmc hms h1) (fun _ h9 => fun _ => h9)
  · unfold cd_feed at h2
    split at h2
    · rename_i e9
      subst e9
      cases h2
      exact sw_Qm (wt_feed_3 hlt D hev hk0 hqa hkd hmc hms h1) (fun _ _ => fun h9 => absurd h9 (by decide))
    · cases h2
def cd_end : Nat → Option Int32 := fun q => if q = 1 then some 1 else none
theorem wo_end {l : Launch} (hlt : l.stackTraces = false) (D : va_G) {ad : List Nat} {h : hp_T} {qa qo sz : Nat} {p0 r : Int32} {f : Nat → Int64} {o : ev_O} (hev : pr_ 53 [.ref 0, .int p0] h o) (hk0 : hp_k h 0 = some (7, 0)) (hqa : ad[0]? = some qa) (hkd : o.2.1 = h.1) {mc ms : Nat} (hmc : mc + hp_c h = hp_c o.2) (hms : ms + hp_s h = hp_s o.2) (ho : (o.1 = .inl none ∧ r = 0) ∨ ∃ q, o.1 = .inr q ∧ cd_end q = some r) : Met l yw_end ww_end (sw_rm 53 mc ms) (sw_P D ad h qo f sz [.ref qa, .int p0]) (sw_Q D ad o.2 qo sz r (fun _ => True)) mc ms (sd_fr (qo :: ad) sz) := by
  obtain ⟨d, f0, hev⟩ := hev
  rcases ho with ⟨h1, rfl⟩ | ⟨q, h1, h2⟩
  · exact sw_Qm (wr_end hlt D hev hk0 hqa hkd hmc hms h1) (fun _ h9 => trivial)
  · unfold cd_end at h2
    split at h2
    · rename_i e9
      subst e9
      cases h2
      exact sw_Qm (wt_end_1 hlt D hev hk0 hqa hkd hmc hms h1) (fun _ _ => trivial)
    · cases h2
def cd_sum : Nat → Option Int32 := fun q => if q = 1 then some 1 else none
theorem wo_sum {l : Launch} (hlt : l.stackTraces = false) (D : va_G) {ad : List Nat} {h : hp_T} {qa qo sz : Nat} {p0 r : Int32} {f : Nat → Int64} {o : ev_O} (hev : pr_ 54 [.ref 0, .int p0] h o) (hk0 : hp_k h 0 = some (7, 0)) (hqa : ad[0]? = some qa) (hkd : o.2.1 = h.1) {mc ms : Nat} (hmc : mc + hp_c h = hp_c o.2) (hms : ms + hp_s h = hp_s o.2) (ho : (o.1 = .inl none ∧ r = 0) ∨ ∃ q, o.1 = .inr q ∧ cd_sum q = some r) : Met l yw_sum ww_sum (sw_rm 54 mc ms) (sw_P D ad h qo f sz [.ref qa, .int p0]) (sw_Q D ad o.2 qo sz r (fun _ => True)) mc ms (sd_fr (qo :: ad) sz) := by
  obtain ⟨d, f0, hev⟩ := hev
  rcases ho with ⟨h1, rfl⟩ | ⟨q, h1, h2⟩
  · exact sw_Qm (wr_sum hlt D hev hk0 hqa hkd hmc hms h1) (fun _ h9 => trivial)
  · unfold cd_sum at h2
    split at h2
    · rename_i e9
      subst e9
      cases h2
      exact sw_Qm (wt_sum_1 hlt D hev hk0 hqa hkd hmc hms h1) (fun _ _ => trivial)
    · cases h2
def cd_copy : Nat → Option Int32 := fun q => if q = 0 then some 1 else none
theorem wo_copy {l : Launch} (hlt : l.stackTraces = false) (D : va_G) {ad : List Nat} {h : hp_T} {qa qo sz : Nat} {p0 r b : Int32} {f : Nat → Int64} {o : ev_O} (hev : pr_ 55 [.ref 0, .int p0] h o) (hk0 : hp_k h 0 = some (7, 0)) (hqa : ad[0]? = some qa) (hkd : o.2.1 = h.1) {mc ms : Nat} (hmc : mc + hp_c h = hp_c o.2) (hms : ms + hp_s h = hp_s o.2) (ho : (o.1 = .inl (some (.int b)) ∧ r = 0) ∨ ∃ q, o.1 = .inr q ∧ cd_copy q = some r) : Met l yw_copy ww_copy (sw_rm 55 mc ms) (sw_P D ad h qo f sz [.ref qa, .int p0, .ref qo]) (sw_Q D ad o.2 qo sz r (fun f2 => r = 0 → f2 0 = b.toInt64)) mc ms (sd_fr (qo :: ad) sz) := by
  obtain ⟨d, f0, hev⟩ := hev
  rcases ho with ⟨h1, rfl⟩ | ⟨q, h1, h2⟩
  · exact sw_Qm (wr_copy hlt D hev hk0 hqa hkd hmc hms h1) (fun _ h9 => fun _ => h9)
  · unfold cd_copy at h2
    split at h2
    · rename_i e9
      subst e9
      cases h2
      exact sw_Qm (wt_copy_0 hlt D hev hk0 hqa hkd hmc hms h1) (fun _ _ => fun h9 => absurd h9 (by decide))
    · cases h2
def cd_receive : Nat → Option Int32 := fun q => if q = 0 then some 1 else none
theorem wo_receive {l : Launch} (hlt : l.stackTraces = false) (D : va_G) {ad : List Nat} {h : hp_T} {qa qo sz : Nat} {p0 r b : Int32} {f : Nat → Int64} {o : ev_O} (hev : pr_ 56 [.ref 0, .int p0] h o) (hk0 : hp_k h 0 = some (7, 0)) (hqa : ad[0]? = some qa) (hkd : o.2.1 = h.1) {mc ms : Nat} (hmc : mc + hp_c h = hp_c o.2) (hms : ms + hp_s h = hp_s o.2) (ho : (o.1 = .inl (some (.int b)) ∧ r = 0) ∨ ∃ q, o.1 = .inr q ∧ cd_receive q = some r) : Met l yw_receive ww_receive (sw_rm 56 mc ms) (sw_P D ad h qo f sz [.ref qa, .int p0, .ref qo]) (sw_Q D ad o.2 qo sz r (fun f2 => r = 0 → f2 0 = b.toInt64)) mc ms (sd_fr (qo :: ad) sz) := by
  obtain ⟨d, f0, hev⟩ := hev
  rcases ho with ⟨h1, rfl⟩ | ⟨q, h1, h2⟩
  · exact sw_Qm (wr_receive hlt D hev hk0 hqa hkd hmc hms h1) (fun _ h9 => fun _ => h9)
  · unfold cd_receive at h2
    split at h2
    · rename_i e9
      subst e9
      cases h2
      exact sw_Qm (wt_receive_0 hlt D hev hk0 hqa hkd hmc hms h1) (fun _ _ => fun h9 => absurd h9 (by decide))
    · cases h2
def cd_pass : Nat → Option Int32 := fun q => if q = 1 then some 1 else none
theorem wo_pass {l : Launch} (hlt : l.stackTraces = false) (D : va_G) {ad : List Nat} {h : hp_T} {qa qo sz : Nat} {p0 r b : Int32} {f : Nat → Int64} {o : ev_O} (hev : pr_ 57 [.ref 0, .int p0] h o) (hk0 : hp_k h 0 = some (7, 0)) (hqa : ad[0]? = some qa) (hkd : o.2.1 = h.1) {mc ms : Nat} (hmc : mc + hp_c h = hp_c o.2) (hms : ms + hp_s h = hp_s o.2) (ho : (o.1 = .inl (some (.int b)) ∧ r = 0) ∨ ∃ q, o.1 = .inr q ∧ cd_pass q = some r) : Met l yw_pass ww_pass (sw_rm 57 mc ms) (sw_P D ad h qo f sz [.ref qa, .int p0, .ref qo]) (sw_Q D ad o.2 qo sz r (fun f2 => r = 0 → f2 0 = b.toInt64)) mc ms (sd_fr (qo :: ad) sz) := by
  obtain ⟨d, f0, hev⟩ := hev
  rcases ho with ⟨h1, rfl⟩ | ⟨q, h1, h2⟩
  · exact sw_Qm (wr_pass hlt D hev hk0 hqa hkd hmc hms h1) (fun _ h9 => fun _ => h9)
  · unfold cd_pass at h2
    split at h2
    · rename_i e9
      subst e9
      cases h2
      exact sw_Qm (wt_pass_1 hlt D hev hk0 hqa hkd hmc hms h1) (fun _ _ => fun h9 => absurd h9 (by decide))
    · cases h2
def cd_sent : Nat → Option Int32 := fun q => if q = 0 then some 1 else if q = 1 then some 2 else none
theorem wo_sent {l : Launch} (hlt : l.stackTraces = false) (D : va_G) {ad : List Nat} {h : hp_T} {qa qo sz : Nat} {p0 p1 r b : Int32} {f : Nat → Int64} {o : ev_O} (hev : pr_ 58 [.ref 0, .int p0, .int p1] h o) (hk0 : hp_k h 0 = some (7, 0)) (hqa : ad[0]? = some qa) (hkd : o.2.1 = h.1) {mc ms : Nat} (hmc : mc + hp_c h = hp_c o.2) (hms : ms + hp_s h = hp_s o.2) (ho : (o.1 = .inl (some (.int b)) ∧ r = 0) ∨ ∃ q, o.1 = .inr q ∧ cd_sent q = some r) : Met l yw_sent ww_sent (sw_rm 58 mc ms) (sw_P D ad h qo f sz [.ref qa, .int p0, .int p1, .ref qo]) (sw_Q D ad o.2 qo sz r (fun f2 => r = 0 → f2 0 = b.toInt64)) mc ms (sd_fr (qo :: ad) sz) := by
  obtain ⟨d, f0, hev⟩ := hev
  rcases ho with ⟨h1, rfl⟩ | ⟨q, h1, h2⟩
  · exact sw_Qm (wr_sent hlt D hev hk0 hqa hkd hmc hms h1) (fun _ h9 => fun _ => h9)
  · unfold cd_sent at h2
    split at h2
    · rename_i e9
      subst e9
      cases h2
      exact sw_Qm (wt_sent_0 hlt D hev hk0 hqa hkd hmc hms h1) (fun _ _ => fun h9 => absurd h9 (by decide))
    · skip
      split at h2
      · rename_i e9
        subst e9
        cases h2
        exact sw_Qm (wt_sent_1 hlt D hev hk0 hqa hkd hmc hms h1) (fun _ _ => fun h9 => absurd h9 (by decide))
      · cases h2
def cd_out : Nat → Option Int32 := fun q => if q = 0 then some 1 else none
theorem wo_out {l : Launch} (hlt : l.stackTraces = false) (D : va_G) {ad : List Nat} {h : hp_T} {qa qo sz : Nat} {p0 p1 r b : Int32} {f : Nat → Int64} {o : ev_O} (hev : pr_ 59 [.ref 0, .int p0, .int p1] h o) (hk0 : hp_k h 0 = some (7, 0)) (hqa : ad[0]? = some qa) (hkd : o.2.1 = h.1) {mc ms : Nat} (hmc : mc + hp_c h = hp_c o.2) (hms : ms + hp_s h = hp_s o.2) (ho : (o.1 = .inl (some (.int b)) ∧ r = 0) ∨ ∃ q, o.1 = .inr q ∧ cd_out q = some r) : Met l yw_out ww_out (sw_rm 59 mc ms) (sw_P D ad h qo f sz [.ref qa, .int p0, .int p1, .ref qo]) (sw_Q D ad o.2 qo sz r (fun f2 => r = 0 → f2 0 = b.toInt64)) mc ms (sd_fr (qo :: ad) sz) := by
  obtain ⟨d, f0, hev⟩ := hev
  rcases ho with ⟨h1, rfl⟩ | ⟨q, h1, h2⟩
  · exact sw_Qm (wr_out hlt D hev hk0 hqa hkd hmc hms h1) (fun _ h9 => fun _ => h9)
  · unfold cd_out at h2
    split at h2
    · rename_i e9
      subst e9
      cases h2
      exact sw_Qm (wt_out_0 hlt D hev hk0 hqa hkd hmc hms h1) (fun _ _ => fun h9 => absurd h9 (by decide))
    · cases h2
def cd_about : Nat → Option Int32 := fun q => if q = 1 then some 1 else none
theorem wo_about {l : Launch} (hlt : l.stackTraces = false) (D : va_G) {ad : List Nat} {h : hp_T} {qa qo sz : Nat} {p0 r b : Int32} {f : Nat → Int64} {o : ev_O} (hev : pr_ 61 [.ref 0, .int p0] h o) (hk0 : hp_k h 0 = some (7, 0)) (hqa : ad[0]? = some qa) (hkd : o.2.1 = h.1) {mc ms : Nat} (hmc : mc + hp_c h = hp_c o.2) (hms : ms + hp_s h = hp_s o.2) (ho : (o.1 = .inl (some (.int b)) ∧ r = 0) ∨ ∃ q, o.1 = .inr q ∧ cd_about q = some r) : Met l yw_about ww_about (sw_rm 61 mc ms) (sw_P D ad h qo f sz [.ref qa, .int p0, .ref qo]) (sw_Q D ad o.2 qo sz r (fun f2 => r = 0 → f2 0 = b.toInt64)) mc ms (sd_fr (qo :: ad) sz) := by
  obtain ⟨d, f0, hev⟩ := hev
  rcases ho with ⟨h1, rfl⟩ | ⟨q, h1, h2⟩
  · exact sw_Qm (wr_about hlt D hev hk0 hqa hkd hmc hms h1) (fun _ h9 => fun _ => h9)
  · unfold cd_about at h2
    split at h2
    · rename_i e9
      subst e9
      cases h2
      exact sw_Qm (wt_about_1 hlt D hev hk0 hqa hkd hmc hms h1) (fun _ _ => fun h9 => absurd h9 (by decide))
    · cases h2
def pu_step (J : hp_T → Prop) (h : hp_T) (w a1 a2 a3 a4 a5 : Int32) : Prop :=
  (w &&& 15 = 0 → pu_v 47 77 cd_port [.int a1, .int a2, .int a3] h J) ∧
  (w &&& 15 = 1 → pu_i true 48 78 cd_up [.int a1, .int (if a2 = 0 then 0 else 1)] h J) ∧
  (w &&& 15 = 2 → pu_i false 49 81 cd_route [.int a1, .int a2, .int a3, .int a4] h J) ∧
  (w &&& 15 = 3 → pu_i true 50 82 cd_unroute [.int a1, .int a2] h J) ∧
  (w &&& 15 = 4 → pu_i false 51 84 cd_lookup [.int a1, .int a2] h J) ∧
  (w &&& 15 = 5 → pu_i false 52 85 cd_feed [.int a1, .int a2, .int a3, .int a4, .int a5] h J) ∧
  (w &&& 15 = 6 → pu_v 53 86 cd_end [.int a1] h J) ∧
  (w &&& 15 = 7 → pu_v 54 92 cd_sum [.int a1] h J) ∧
  (w &&& 15 = 8 → pu_i false 55 93 cd_copy [.int a1] h J) ∧
  (w &&& 15 = 9 → pu_i false 56 112 cd_receive [.int a1] h J) ∧
  (w &&& 15 = 10 → pu_i false 57 114 cd_pass [.int a1] h J) ∧
  (w &&& 15 = 11 → pu_i false 58 115 cd_sent [.int a1, .int a2] h J) ∧
  (w &&& 15 = 12 → pu_i false 59 116 cd_out [.int a1, .int a2] h J) ∧
  (w &&& 15 = 13 → pu_d 60 117 [.int a1] h J) ∧
  (w &&& 15 = 14 → pu_i false 61 118 cd_about [.int a1] h J) ∧
  (w &&& 15 = 15 → J h)
