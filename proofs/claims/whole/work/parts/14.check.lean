section TableA
theorem lk_mem {α : Type} {z : α} : ∀ (l : List (Nat × α)) (x : Nat), tb_lk z l x = z ∨ (x, tb_lk z l x) ∈ l
  | [], _ => Or.inl rfl
  | q :: r, x => by
    unfold tb_lk
    cases h : Nat.beq q.1 x with
    | true =>
      have e : q.1 = x := Nat.eq_of_beq_eq_true h
      exact Or.inr (List.mem_cons.mpr (Or.inl (by rw [← e])))
    | false =>
      rcases lk_mem r x with h2 | h2
      · exact Or.inl h2
      · exact Or.inr (List.mem_cons_of_mem _ h2)
theorem lr_all : ∀ c : Nat, ∀ q ∈ tb_rcs.getD c [], lf c q.1 q.2

  | 0 => lr_0
  | 1 => lr_1
  | 2 => lr_2
  | 3 => lr_3
  | 4 => lr_4
  | 5 => lr_5
  | 6 => lr_6
  | 7 => lr_7
  | 8 => lr_8
  | 9 => lr_9
  | n + 10 => fun _ h => absurd h (by simp [tb_rcs])
theorem lf_k (k x : Nat) : lf (tb_ci k) x (tb_rs k x) := by
  rcases lk_mem (z := ((0, 0, 0, 0) : tb_R)) (tb_rcs.getD (tb_ci k) []) x with h | h
  · have e : tb_rs k x = (0, 0, 0, 0) := h
    rw [e]
    exact ⟨nofun, nofun, nofun, nofun, nofun, nofun, nofun, nofun⟩
  · exact lr_all _ _ h
def ck_2 (k kd x : Nat) : Bool := decide ((tb_rs k x).1 ≠ 2) || (decide ((tb_rs k x).2.2.1 = kd) && decide (tb_rf (tb_rs k x).2.1 + 1 ≤ tb_rf k) && decide (8 + (tb_ml (tb_rs k x).2.1 + 11) + tb_rl (tb_rs k x).2.1 ≤ tb_rl k))
def ck_i (k pc : Nat) (i : Instr) : Bool := match i with
  | .putfield x => decide ((tb_rs k x).1 ≠ 1) || (match vwCl[(tb_rs k x).2.1]? with
    | some r => !(r.2.1 (tb_rs k x).2.2.1).2.2.2 || (decide ((tb_y k).name = "<init>") && decide ((r.2.1 (tb_rs k x).2.2.1).1 = tb_own k))
    | none => false)
  | .invokevirtual x => ck_2 k 1 x
  | .invokespecial x => ck_2 k 2 x
  | .invokestatic x => ck_2 k 0 x
  | .new x => decide ((tb_rs k x).1 ≠ 9) || decide ((k, pc, x) ∈ tb_th)
  | .newarray y => decide (64 ≤ ev_at y)
  | .anewarray x => decide ((tb_rs k x).1 ≠ 3) || decide (ev_cn (tb_rs k x).2.1 ∈ tb_ao)
  | _ => true
def ck_d (b : ByteArray) (pc : Nat) (i : Instr) : Bool := match decode b pc with
  | .ok r => decide (r.1 = i) && (decide (r.2 = ev_len i) || ev_sw i)
  | _ => false
def ck_q (k : Nat) (q : Nat × Option Instr) : Bool := match q.2 with
  | some i => ck_d (tb_b k) q.1 i && ck_i k q.1 i
  | none => false

end TableA
