-- the abstract heap: kinds (class or array code, length), ints, references, cells and slots made so far
abbrev hp_T : Type := List (Nat × Nat) × (Nat → Nat → Int32) × (Nat → Nat → Option Nat) × Nat × Nat
def hp_k (h : hp_T) (i : Nat) : Option (Nat × Nat) := h.1[i]?
def hp_z (h : hp_T) : Nat → Nat → Int32 := h.2.1
def hp_p (h : hp_T) : Nat → Nat → Option Nat := h.2.2.1
def hp_c (h : hp_T) : Nat := h.2.2.2.1
def hp_s (h : hp_T) : Nat := h.2.2.2.2
def hp_zw (h : hp_T) (i : Nat) (f : Nat → Int32) : hp_T := (h.1, va_up h.2.1 i f, h.2.2)
def hp_pw (h : hp_T) (i k : Nat) (v : Option Nat) : hp_T := (h.1, h.2.1, va_up h.2.2.1 i (va_up (h.2.2.1 i) k v), h.2.2.2)
def hp_new (h : hp_T) (t n w : Nat) : hp_T := (h.1 ++ [(t, n)], va_up h.2.1 h.1.length (fun _ => 0), va_up h.2.2.1 h.1.length (fun _ => none), h.2.2.2.1 + 1, h.2.2.2.2 + w)
def hp_thr (h : hp_T) : hp_T := (h.1, h.2.1, h.2.2.1, h.2.2.2.1 + 1, h.2.2.2.2 + 6)
-- how many bytes an instruction has
def ev_len : Instr → Nat
  | .bipush _ | .iload _ | .aload _ | .istore _ | .astore _ | .ldc _ | .newarray _ => 2
  | .sipush _ | .iinc _ _ | .ifCond _ _ | .if_icmp _ _ | .goto _ | .getfield _ | .putfield _ | .invokevirtual _ | .invokespecial _ | .invokestatic _ | .new _ | .anewarray _ | .ldc_w _ => 3
  | _ => 1
def ev_sw : Instr → Bool
  | .tableswitch _ _ _ _ => true
  | .lookupswitch _ _ => true
  | _ => false
def ev_j (pc : Nat) (off : Int) : Option Nat := if 0 ≤ (pc : Int) + off then some ((pc : Int) + off).toNat else none

def ev_c (c : Jvm.ClassFile.Cond) (x y : Int32) : Bool := match c with
  | .eq => decide (x = y)
  | .ne => decide (¬ x = y)
  | .lt => decide (x < y)
  | .ge => decide (y ≤ x)
  | .gt => decide (y < x)
  | .le => decide (x ≤ y)
-- a step that touches neither the heap nor the tables
def ev_p (i : Instr) (pc : Nat) (L st : List Value) : Option (Nat × List Value × List Value) := match i with
  | .aconst_null => some (pc + 1, L, .null :: st)
  | .iconst n => some (pc + 1, L, .int (Int32.ofInt n) :: st)
  | .bipush n => some (pc + 2, L, .int (Int8.ofInt n).toInt32 :: st)
  | .sipush n => some (pc + 3, L, .int (Int16.ofInt n).toInt32 :: st)
  | .iload k => match L[k]? with
    | some (.int x) => some (pc + 2, L, .int x :: st)
    | _ => none
  | .iload_n k => match L[(k : Nat)]? with
    | some (.int x) => some (pc + 1, L, .int x :: st)
    | _ => none
  | .aload k => match L[k]? with
    | some (.ref x) => some (pc + 2, L, .ref x :: st)
    | _ => none
  | .aload_n k => match L[(k : Nat)]? with
    | some (.ref x) => some (pc + 1, L, .ref x :: st)
    | _ => none
  | .istore k => match st with
    | .int x :: r => if k < L.length then some (pc + 2, L.set k (.int x), r) else none
    | _ => none
  | .istore_n k => match st with
    | .int x :: r => if (k : Nat) < L.length then some (pc + 1, L.set k (.int x), r) else none
    | _ => none
  | .astore k => match st with
    | .ref x :: r => if k < L.length then some (pc + 2, L.set k (.ref x), r) else none
    | _ => none
  | .astore_n k => match st with
    | .ref x :: r => if (k : Nat) < L.length then some (pc + 1, L.set k (.ref x), r) else none
    | _ => none
  | .iinc k n => match L[k]? with
    | some (.int x) => some (pc + 3, L.set k (.int (x + Int32.ofInt n)), st)
    | _ => none
  | .iadd => match st with
    | .int y :: .int x :: r => some (pc + 1, L, .int (x + y) :: r)
    | _ => none
  | .isub => match st with
    | .int y :: .int x :: r => some (pc + 1, L, .int (x - y) :: r)
    | _ => none
  | .imul => match st with
    | .int y :: .int x :: r => some (pc + 1, L, .int (x * y) :: r)
    | _ => none
  | .iand => match st with
    | .int y :: .int x :: r => some (pc + 1, L, .int (x &&& y) :: r)
    | _ => none
  | .ior => match st with
    | .int y :: .int x :: r => some (pc + 1, L, .int (x ||| y) :: r)
    | _ => none
  | .ixor => match st with
    | .int y :: .int x :: r => some (pc + 1, L, .int (x ^^^ y) :: r)
    | _ => none
  | .ishl => match st with
    | .int y :: .int x :: r => some (pc + 1, L, .int (x <<< (y &&& 31)) :: r)
    | _ => none
  | .ishr => match st with
    | .int y :: .int x :: r => some (pc + 1, L, .int (x >>> (y &&& 31)) :: r)
    | _ => none
  | .iushr => match st with
    | .int y :: .int x :: r => some (pc + 1, L, .int ((x.toUInt32 >>> (y.toUInt32 &&& Int32.toUInt32 31)).toInt32) :: r)
    | _ => none
  | .idiv => match st with
    | .int y :: .int x :: r => if y = 0 then none else some (pc + 1, L, .int (x / y) :: r)
    | _ => none
  | .irem => match st with
    | .int y :: .int x :: r => if y = 0 then none else some (pc + 1, L, .int (x - x / y * y) :: r)
    | _ => none
  | .ineg => match st with
    | .int x :: r => some (pc + 1, L, .int (-x) :: r)
    | _ => none
  | .i2b => match st with
    | .int x :: r => some (pc + 1, L, .int (x.toInt8.toInt32) :: r)
    | _ => none
  | .i2s => match st with
    | .int x :: r => some (pc + 1, L, .int (x.toInt16.toInt32) :: r)
    | _ => none
  | .i2c => match st with
    | .int x :: r => some (pc + 1, L, .int ((x.toUInt32 % 65536).toInt32) :: r)
    | _ => none
  | .dup => match st with
    | v :: r => some (pc + 1, L, v :: v :: r)
    | _ => none
  | .dup_x1 => match st with
    | v :: u :: r => some (pc + 1, L, v :: u :: v :: r)
    | _ => none
  | .dup_x2 => match st with
    | v :: u :: t :: r => some (pc + 1, L, v :: u :: t :: v :: r)
    | _ => none
  | .dup2 => match st with
    | v :: u :: r => some (pc + 1, L, v :: u :: v :: u :: r)
    | _ => none
  | .pop => match st with
    | _ :: r => some (pc + 1, L, r)
    | _ => none
  | .goto off => match ev_j pc off with
    | some t => some (t, L, st)
    | none => none
  | .ifCond c off => match st with
    | .int x :: r => match ev_j pc off with
      | some t => some (if ev_c c x 0 then t else pc + 3, L, r)
      | none => none
    | _ => none
  | .if_icmp c off => match st with
    | .int y :: .int x :: r => match ev_j pc off with
      | some t => some (if ev_c c x y then t else pc + 3, L, r)
      | none => none
    | _ => none
  | .tableswitch dflt lo hi offs => match st with
    | .int x :: r => if x.toInt < lo ∨ hi < x.toInt then (match ev_j pc dflt with
        | some t => some (t, L, r)
        | none => none)
      else (match offs[(x.toInt - lo).toNat]? with
        | some off => (match ev_j pc off with
          | some t => some (t, L, r)
          | none => none)
        | none => none)
    | _ => none
  | .lookupswitch dflt ps => match st with
    | .int x :: r => if (ps.toList.zip (ps.toList.drop 1)).all (fun (a, next) => a.1 < next.1) = true then (match ev_j pc (Op.lookupswitch.offset ps.toList dflt x.toInt) with
        | some t => some (t, L, r)
        | none => none)
      else none
    | _ => none
  | _ => none
-- what an array's code says of its type; the name of a class by its number
def ev_ty (t : Nat) : FieldType := if t = 65 then .byte else if t = 66 then .boolean else .int
def ev_cn (c : Nat) : String := match vwCl[c]? with
  | some r => r.1
  | none => ""
def ev_rr : FieldType → Bool
  | .object _ => true
  | .array _ => true
  | _ => false
def ev_in (j : Int32) (n : Nat) : Bool := !(decide (j < 0) || decide (n ≤ j.toNatClampNeg))
def ev_fv (h : hp_T) (a c k : Nat) : Value := if ev_rr (tb_ft c k) = true then va_rf (hp_p h a k) else .int (hp_z h a k)
def ev_at : Jvm.ClassFile.ArrayType → Nat
  | .int => 64
  | .byte => 65
  | .boolean => 66
  | _ => 0
abbrev ev_R : Type := tb_R
-- a step over the heap or the tables: no call of a method with code, no return
def ev_h (rs : Nat → ev_R) (i : Instr) (st : List Value) (h : hp_T) : Option (List Value × hp_T) := match i with
  | .ldc x => if (rs x).1 = 4 then some (.int (rs x).2.2.2 :: st, h) else none
  | .ldc_w x => if (rs x).1 = 4 then some (.int (rs x).2.2.2 :: st, h) else none
  | .getfield x => match st with
    | .ref a :: r => if (rs x).1 = 1 ∧ hp_k h a = some ((rs x).2.1, 0) then some (ev_fv h a (rs x).2.1 (rs x).2.2.1 :: r, h) else none
    | _ => none
  | .putfield x => match st with
    | .int v :: .ref a :: r => if (rs x).1 = 1 ∧ hp_k h a = some ((rs x).2.1, 0) ∧ ev_rr (tb_ft (rs x).2.1 (rs x).2.2.1) = false ∧ narrow (tb_ft (rs x).2.1 (rs x).2.2.1) (.int v) = .int v ∧ fits (tb_ft (rs x).2.1 (rs x).2.2.1) (.int v) = true
        then some (r, hp_zw h a (upd (hp_z h a) (rs x).2.2.1 v)) else none
    | .ref v :: .ref a :: r => if (rs x).1 = 1 ∧ hp_k h a = some ((rs x).2.1, 0) ∧ ev_rr (tb_ft (rs x).2.1 (rs x).2.2.1) = true then some (r, hp_pw h a (rs x).2.2.1 (some v)) else none
    | _ => none
  | .iaload => match st with
    | .int j :: .ref a :: r => match hp_k h a with
      | some (t, n) => if t = 64 ∧ ev_in j n = true then some (.int (hp_z h a j.toNatClampNeg) :: r, h) else none
      | none => none
    | _ => none
  | .baload => match st with
    | .int j :: .ref a :: r => match hp_k h a with
      | some (t, n) => if (t = 65 ∨ t = 66) ∧ ev_in j n = true then some (.int (hp_z h a j.toNatClampNeg) :: r, h) else none
      | none => none
    | _ => none
  | .aaload => match st with
    | .int j :: .ref a :: r => match hp_k h a with
      | some (t, n) => if 100 ≤ t ∧ ev_in j n = true then some (va_rf (hp_p h a j.toNatClampNeg) :: r, h) else none
      | none => none
    | _ => none
  | .iastore => match st with
    | .int v :: .int j :: .ref a :: r => match hp_k h a with
      | some (t, n) => if t = 64 ∧ ev_in j n = true then some (r, hp_zw h a (upd (hp_z h a) j.toNatClampNeg v)) else none
      | none => none
    | _ => none
  | .bastore => match st with
    | .int v :: .int j :: .ref a :: r => match hp_k h a with
      | some (t, n) => if (t = 65 ∨ t = 66) ∧ ev_in j n = true then some (r, hp_zw h a (upd (hp_z h a) j.toNatClampNeg (vp_nar (ev_ty t) v))) else none
      | none => none
    | _ => none
  | .aastore => match st with
    | .ref v :: .int j :: .ref a :: r => match hp_k h a with
      | some (t, n) => if 100 ≤ t ∧ ev_in j n = true ∧ hp_k h v = some (t - 100, 0) ∧ t - 100 < 64 then some (r, hp_pw h a j.toNatClampNeg (some v)) else none
      | none => none
    | _ => none
  | .arraylength => match st with
    | .ref a :: r => match hp_k h a with
      | some (t, n) => if 64 ≤ t then some (.int (Int32.ofNat n) :: r, h) else none
      | none => none
    | _ => none
  | .newarray y => match st with
    | .int n :: r => if ¬ n < 0 ∧ n.toNatClampNeg ≤ 100000 ∧ 64 ≤ ev_at y then some (.ref h.1.length :: r, hp_new h (ev_at y) n.toNatClampNeg n.toNatClampNeg) else none
    | _ => none
  | .anewarray x => match st with
    | .int n :: r => if ¬ n < 0 ∧ n.toNatClampNeg ≤ 100000 ∧ (rs x).1 = 3 then some (.ref h.1.length :: r, hp_new h (100 + (rs x).2.1) n.toNatClampNeg n.toNatClampNeg) else none
    | _ => none
  | .new x => if (rs x).1 = 3 ∧ (rs x).2.1 < 64 then some (.ref h.1.length :: st, hp_new h (rs x).2.1 0 (rs x).2.2.1) else none
  | .invokespecial x => match st with
    | .ref _ :: r => if (rs x).1 = 8 ∧ r.length ≤ 8 then some (r, h) else none
    | _ => none
  | .invokestatic x => match st with
    | .int v :: .int w :: .ref b :: .int u :: .ref a :: r => if (rs x).1 = 5 ∧ r.length ≤ 8 then (match hp_k h a, hp_k h b with
        | some (t, n), some (t2, n2) => if t = t2 ∧ 64 ≤ t ∧ t < 100 ∧ ¬ u < 0 ∧ ¬ w < 0 ∧ ¬ v < 0 ∧ u.toNatClampNeg + v.toNatClampNeg ≤ n ∧ w.toNatClampNeg + v.toNatClampNeg ≤ n2
            then some (r, hp_zw h b (va_cpy (hp_z h a) (hp_z h b) u.toNatClampNeg w.toNatClampNeg v.toNatClampNeg)) else none
        | _, _ => none) else none
    | .int y :: .int w :: r => if (rs x).1 = 6 ∧ r.length ≤ 8 then some (.int (if w < y then y else w) :: r, h) else if (rs x).1 = 7 ∧ r.length ≤ 8 then some (.int (if y < w then y else w) :: r, h) else none
    | _ => none
  | _ => none
-- what a method ends with: a value or nothing, or a thrown thing's number
abbrev ev_O : Type := (Option Value ⊕ Nat) × hp_T
def ev_b (call : Nat → List Value → hp_T → Option ev_O) (rec : Nat → List Value → List Value → hp_T → Option ev_O) (k pc : Nat) (L st : List Value) (h : hp_T) : Option ev_O := match tb_ins k pc with
    | none => none
    | some i => match ev_p i pc L st with
      | some (pc', L', st') => rec pc' L' st' h
      | none => match ev_h (tb_rs k) i st h with
        | some (st', h') => rec (pc + ev_len i) L st' h'
        | none => match i with
          | .ireturn => match st with
            | [.int x] => match tb_rt k with
              | some ty => if narrow ty (.int x) = .int x then some (.inl (some (.int x)), h) else none
              | none => none
            | _ => none
          | .areturn => match st with
            | [.ref x] => match tb_rt k with
              | some ty => if ev_rr ty = true then some (.inl (some (.ref x)), h) else none
              | none => none
            | _ => none
          | .return_ => match st with
            | [] => if tb_rt k = none then some (.inl none, h) else none
            | _ => none
          | .new x => if (tb_rs k x).1 = 9 ∧ st.length ≤ 8 then some (.inr (tb_rs k x).2.1, hp_thr h) else none
          | .invokevirtual x => if (tb_rs k x).1 = 2 ∧ tb_na (tb_rs k x).2.1 ≤ st.length then (match st.drop (tb_na (tb_rs k x).2.1) with
              | .ref b :: r => if r.length ≤ 8 ∧ hp_k h b = some (tb_ci (tb_rs k x).2.1, 0) then (match call (tb_rs k x).2.1 (.ref b :: (st.take (tb_na (tb_rs k x).2.1)).reverse) h with
                | some (.inl v, h') => rec (pc + 3) L (v.toList ++ r) h'
                | some (.inr q, h') => some (.inr q, h')
                | none => none) else none
              | _ => none) else none
          | .invokespecial x => if (tb_rs k x).1 = 2 ∧ tb_na (tb_rs k x).2.1 ≤ st.length then (match st.drop (tb_na (tb_rs k x).2.1) with
              | .ref b :: r => if r.length ≤ 8 then (match call (tb_rs k x).2.1 (.ref b :: (st.take (tb_na (tb_rs k x).2.1)).reverse) h with
                | some (.inl v, h') => rec (pc + 3) L (v.toList ++ r) h'
                | _ => none) else none
              | _ => none) else none
          | .invokestatic x => if (tb_rs k x).1 = 2 ∧ tb_na (tb_rs k x).2.1 ≤ st.length ∧ (st.drop (tb_na (tb_rs k x).2.1)).length ≤ 8 then (match call (tb_rs k x).2.1 (st.take (tb_na (tb_rs k x).2.1)).reverse h with
              | some (.inl v, h') => rec (pc + 3) L (v.toList ++ st.drop (tb_na (tb_rs k x).2.1)) h'
              | some (.inr q, h') => some (.inr q, h')
              | none => none) else none
          | _ => none
def ev_1 (call : Nat → List Value → hp_T → Option ev_O) : Nat → Nat → Nat → List Value → List Value → hp_T → Option ev_O
  | 0, _, _, _, _, _ => none
  | f + 1, k, pc, L, st, h => ev_b call (ev_1 call f k) k pc L st h
theorem ev_1_s (call : Nat → List Value → hp_T → Option ev_O) (f k pc : Nat) (L st : List Value) (h : hp_T) : ev_1 call (f + 1) k pc L st h = ev_b call (ev_1 call f k) k pc L st h := rfl
def ev_m : Nat → Nat → Nat → List Value → hp_T → Option ev_O
  | 0, _, _, _, _ => none
  | d + 1, f, k, as, h => if as.length ≤ tb_ml k then ev_1 (ev_m d f) f k 0 (as ++ List.replicate (tb_ml k - as.length) .null) [] h else none
