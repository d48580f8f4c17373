-- the reference's judge, up to what it calls
section Judge55
variable {N M f c s : Nat} {B : Nat → Nat} {z : Nat → Nat → Int32} {w : Nat → Option Nat}
def zS (z : Nat → Nat → Int32) (v : Int32) : Nat → Nat → Int32 := va_up z 52 (upd (z 52) 12 v)
theorem zS_ne (v : Int32) {a : Nat} (h : a ≠ 52) : zS z v a = z a := va_up_ne _ _ h
theorem zS_12 (v : Int32) : zS z v 52 12 = v := by unfold zS; rw [va_up_self, pk_us]
theorem zS_k (v : Int32) {k : Nat} (h : k ≠ 12) : zS z v 52 k = z 52 k := by unfold zS; rw [va_up_self, pk_un h]
theorem m108 {b : Nat} (hb : b < 256) (h : hp_T) : F_108 f (nI b) h = some (.inl (some (.int (if b = 127 ∨ 223 < b then 1 else 0))), h) := by
  by_cases h1 : b = 127
  · subst h1
    simp only [F_108, B_108_13, B_108_18, ec_eq, show nI 127 = 127 from rfl, decide_true, db_1, show dzb 1 = true from rfl, dg_1, true_or, if_true]
  · have h1' : ¬ nI b = 127 := fun h => h1 ((nI_eq (b := 127) (by omega) (by omega)).mp h)
    by_cases h2 : 223 < b
    · have h2' : ¬ nI b ≤ 223 := nI_ge (a := 223) h2 (by omega)
      simp only [F_108, B_108_13, B_108_18, ec_eq, ec_le, h1', h2', decide_false, db_0, show dzb 1 = true from rfl, dg_1, h2, or_true, if_true]
    · have h2' : nI b ≤ 223 := nI_le (b := 223) (by omega) (by omega)
      simp only [F_108, B_108_13, B_108_18, ec_eq, ec_le, h1', h2', decide_false, db_0, decide_true, db_1, show dzb 0 = true from rfl, dg_1, h1, h2, or_false, if_false]
theorem mb_zS {r : Nat} (v : Int32) (h : r ≠ 52) (hb : mb z r M B) : mb (zS z v) r M B := ⟨hb.1, fun i hi => by rw [zS_ne v h]; exact hb.2 i hi⟩
theorem m111_1 {n : Nat} {p : Int32} (hn : n < 20) : F_111 f 52 p (nI n) (hq z w c s) = some (.inl (some (.int 1)), hq z w c s) := by
  have h1' : ¬ (20 : Int32) ≤ nI n := nI_ge (b := 20) hn (by omega)
  simp only [F_111, ec_ge, h1', decide_false, db_0]
theorem hl_m : (4 : Int32) * nI (B 0 % 16) = nI (hl B) := by
  rw [show (4 : Int32) = nI 4 from rfl, nI_mulN]; congr 1; unfold hl; omega
theorem m111_2 {n : Nat} {p : Int32} (hb : mb z 61 n B) (hn : n ≤ 4100) (h1 : ¬ n < 20) (h2 : ¬ B 0 / 16 = 4) : F_111 f 52 p (nI n) (hq z w c s) = some (.inl (some (.int 2)), hq z w c s) := by
  have h1' : (20 : Int32) ≤ nI n := nI_le (a := 20) (by omega) (by omega)
  have b0 := hb.1 0
  have v0 := hb.2 0 (by omega)
  have i0 : ev_in 0 4100 = true := by decide
  have c0 : Int32.toNatClampNeg 0 = 0 := rfl
  have e15 := (nI_mask (a := B 0) (by omega)).1
  have e4 : nI (B 0) >>> ((4 : Int32) &&& 31) = nI (B 0 / 16) := (nI_shr (by omega)).2.2.2
  have hm := hl_m (B := B)
  have hL := hl_le B
  have h2' : ¬ nI (B 0 / 16) = 4 := fun h => h2 ((nI_eq (b := 4) (by omega) (by omega)).mp h)
  simp only [F_111, ec_ge, ec_eq, ec_lt, ec_le, ec_ne, ec_gt, h1', decide_true, decide_false, db_1, db_0, kq_52, pq_52_10, dp_1, dg_1, aq_61, i0, c0, hq_z, v0, e4, e15, hm, h2']
theorem m111_3 {n : Nat} {p : Int32} (hb : mb z 61 n B) (hn : n ≤ 4100) (h1 : ¬ n < 20) (h2 : B 0 / 16 = 4) (h3 : hl B < 20 ∨ n < hl B) : F_111 f 52 p (nI n) (hq z w c s) = some (.inl (some (.int 3)), hq z w c s) := by
  have h1' : (20 : Int32) ≤ nI n := nI_le (a := 20) (by omega) (by omega)
  have b0 := hb.1 0
  have v0 := hb.2 0 (by omega)
  have i0 : ev_in 0 4100 = true := by decide
  have c0 : Int32.toNatClampNeg 0 = 0 := rfl
  have e15 := (nI_mask (a := B 0) (by omega)).1
  have e4 : nI (B 0) >>> ((4 : Int32) &&& 31) = nI (B 0 / 16) := (nI_shr (by omega)).2.2.2
  have hm := hl_m (B := B)
  have hL := hl_le B
  have h2' : nI (B 0 / 16) = 4 := by rw [h2]; rfl
  by_cases h4 : hl B < 20
  · have h4' : nI (hl B) < 20 := nI_lt (b := 20) h4 (by omega)
    simp only [F_111, ec_ge, ec_eq, ec_lt, ec_le, ec_ne, ec_gt, h1', decide_true, decide_false, db_1, db_0, kq_52, pq_52_10, dp_1, dg_1, aq_61, i0, c0, hq_z, v0, e4, e15, hm, h2', B_111_45, h4']
  · have h4' : ¬ nI (hl B) < 20 := nI_nlt (b := 20) (by omega) (by omega)
    have h5' : ¬ nI (hl B) ≤ nI n := nI_ge (by omega) (by omega)
    simp only [F_111, ec_ge, ec_eq, ec_lt, ec_le, ec_ne, ec_gt, h1', decide_true, decide_false, db_1, db_0, kq_52, pq_52_10, dp_1, dg_1, aq_61, i0, c0, hq_z, v0, e4, e15, hm, h2', B_111_45, h4', h5']
theorem m111_4 {n : Nat} {p : Int32} (hb : mb z 61 n B) (hn : n ≤ 4100) (h1 : ¬ n < 20) (h2 : B 0 / 16 = 4) (h3 : ¬ (hl B < 20 ∨ n < hl B)) (h4 : n2 B 2 < hl B ∨ n < n2 B 2) : F_111 f 52 p (nI n) (hq z w c s) = some (.inl (some (.int 4)), hq (zS z (nI (n2 B 2))) w c s) := by
  have h1' : (20 : Int32) ≤ nI n := nI_le (a := 20) (by omega) (by omega)
  have b0 := hb.1 0
  have v0 := hb.2 0 (by omega)
  have i0 : ev_in 0 4100 = true := by decide
  have c0 : Int32.toNatClampNeg 0 = 0 := rfl
  have e15 := (nI_mask (a := B 0) (by omega)).1
  have e4 : nI (B 0) >>> ((4 : Int32) &&& 31) = nI (B 0 / 16) := (nI_shr (by omega)).2.2.2
  have hm := hl_m (B := B)
  have hL := hl_le B
  have h2' : nI (B 0 / 16) = 4 := by rw [h2]; rfl
  have h3' : ¬ nI (hl B) < 20 := nI_nlt (b := 20) (by omega) (by omega)
  have h4' : nI (hl B) ≤ nI n := nI_le (by omega) (by omega)
  have l2 := n2_lt hb.1 2
  have q2 : F_89 f 61 2 (hq z w c s) = some (.inl (some (.int (nI (n2 B 2)))), hq z w c s) := n89 (t := 2) kq_61 hb hn (by omega) (by omega)
  have hz : va_up z 52 (upd (z 52) 12 (nI (n2 B 2))) = zS z (nI (n2 B 2)) := rfl
  have hb2 := mb_zS (r := 61) (nI (n2 B 2)) (by omega) hb
  by_cases h5 : n2 B 2 < hl B
  · have h5' : nI (n2 B 2) < nI (hl B) := nI_lt h5 (by omega)
    simp only [F_111, ec_ge, ec_eq, ec_lt, ec_le, ec_ne, ec_gt, h1', decide_true, decide_false, db_1, db_0, kq_52, pq_52_10, dp_1, dg_1, aq_61, i0, c0, hq_z, v0, e4, e15, hm, h2', h3', h4', q2, di_1, hq_wz, dl_1, hz, zS_12, B_111_75, h5']
  · have h5' : ¬ nI (n2 B 2) < nI (hl B) := nI_nlt (by omega) (by omega)
    have h6' : ¬ nI (n2 B 2) ≤ nI n := nI_ge (by omega) (by omega)
    simp only [F_111, ec_ge, ec_eq, ec_lt, ec_le, ec_ne, ec_gt, h1', decide_true, decide_false, db_1, db_0, kq_52, pq_52_10, dp_1, dg_1, aq_61, i0, c0, hq_z, v0, e4, e15, hm, h2', h3', h4', q2, di_1, hq_wz, dl_1, hz, zS_12, B_111_75, h5', h6']
theorem m111_5 {n : Nat} {p : Int32} (hb : mb z 61 n B) (hn : n ≤ 4100) (h1 : ¬ n < 20) (h2 : B 0 / 16 = 4) (h3 : ¬ (hl B < 20 ∨ n < hl B)) (h4 : ¬ (n2 B 2 < hl B ∨ n < n2 B 2)) (hf : 100 < f) (h5 : ¬ ck (sN B 0 10 (hl B)) = n2 B 10) : F_111 f 52 p (nI n) (hq z w c s) = some (.inl (some (.int 5)), hq (zS z (nI (n2 B 2))) w c s) := by
  have h1' : (20 : Int32) ≤ nI n := nI_le (a := 20) (by omega) (by omega)
  have b0 := hb.1 0
  have v0 := hb.2 0 (by omega)
  have i0 : ev_in 0 4100 = true := by decide
  have c0 : Int32.toNatClampNeg 0 = 0 := rfl
  have e15 := (nI_mask (a := B 0) (by omega)).1
  have e4 : nI (B 0) >>> ((4 : Int32) &&& 31) = nI (B 0 / 16) := (nI_shr (by omega)).2.2.2
  have hm := hl_m (B := B)
  have hL := hl_le B
  have h2' : nI (B 0 / 16) = 4 := by rw [h2]; rfl
  have h3' : ¬ nI (hl B) < 20 := nI_nlt (b := 20) (by omega) (by omega)
  have h4' : nI (hl B) ≤ nI n := nI_le (by omega) (by omega)
  have l2 := n2_lt hb.1 2
  have q2 : F_89 f 61 2 (hq z w c s) = some (.inl (some (.int (nI (n2 B 2)))), hq z w c s) := n89 (t := 2) kq_61 hb hn (by omega) (by omega)
  have hz : va_up z 52 (upd (z 52) 12 (nI (n2 B 2))) = zS z (nI (n2 B 2)) := rfl
  have hb2 := mb_zS (r := 61) (nI (n2 B 2)) (by omega) hb
  have h5' : ¬ nI (n2 B 2) < nI (hl B) := nI_nlt (by omega) (by omega)
  have h6' : nI (n2 B 2) ≤ nI n := nI_le (by omega) (by omega)
  have q87 : F_87 f 61 0 (nI (hl B)) 10 (hq (zS z (nI (n2 B 2))) w c s) = some (.inl (some (.int (nI (ck (sN B 0 10 (hl B)))))), hq (zS z (nI (n2 B 2))) w c s) := t87 (at_ := 0) (sk := 10) (N := 4100) (fun z => kq_61) (by omega) (by omega) (by omega) hb.1 (fun i _ h _ _ => hb2.2 i (by omega)) (by omega)
  have q10 : F_89 f 61 10 (hq (zS z (nI (n2 B 2))) w c s) = some (.inl (some (.int (nI (n2 B 10)))), hq (zS z (nI (n2 B 2))) w c s) := n89 (t := 10) kq_61 hb2 hn (by omega) (by omega)
  have q6 : F_89 f 61 6 (hq (zS z (nI (n2 B 2))) w c s) = some (.inl (some (.int (nI (n2 B 6)))), hq (zS z (nI (n2 B 2))) w c s) := n89 (t := 6) kq_61 hb2 hn (by omega) (by omega)
  have l10 := n2_lt hb.1 10
  have lck := ck_lt (sN B 0 10 (hl B))
  have h7' : ¬ nI (ck (sN B 0 10 (hl B))) = nI (n2 B 10) := fun h => h5 ((nI_eq (by omega) (by omega)).mp h)
  simp only [F_111, ec_ge, ec_eq, ec_lt, ec_le, ec_ne, ec_gt, h1', decide_true, decide_false, db_1, db_0, kq_52, pq_52_10, dp_1, dg_1, aq_61, i0, c0, hq_z, v0, e4, e15, hm, h2', h3', h4', q2, di_1, hq_wz, dl_1, hz, zS_12, h5', h6', q87, q10, h7']
theorem m111_6 {n : Nat} {p : Int32} (hb : mb z 61 n B) (hn : n ≤ 4100) (h1 : ¬ n < 20) (h2 : B 0 / 16 = 4) (h3 : ¬ (hl B < 20 ∨ n < hl B)) (h4 : ¬ (n2 B 2 < hl B ∨ n < n2 B 2)) (hf : 100 < f) (h5 : ck (sN B 0 10 (hl B)) = n2 B 10) (h6 : B 12 = 127 ∨ 223 < B 12 ∨ 65535 < n2 B 6 % 8192 * 8 + (n2 B 2 - hl B)) : F_111 f 52 p (nI n) (hq z w c s) = some (.inl (some (.int 6)), hq (zS z (nI (n2 B 2))) w c s) := by
  have h1' : (20 : Int32) ≤ nI n := nI_le (a := 20) (by omega) (by omega)
  have b0 := hb.1 0
  have v0 := hb.2 0 (by omega)
  have i0 : ev_in 0 4100 = true := by decide
  have c0 : Int32.toNatClampNeg 0 = 0 := rfl
  have e15 := (nI_mask (a := B 0) (by omega)).1
  have e4 : nI (B 0) >>> ((4 : Int32) &&& 31) = nI (B 0 / 16) := (nI_shr (by omega)).2.2.2
  have hm := hl_m (B := B)
  have hL := hl_le B
  have h2' : nI (B 0 / 16) = 4 := by rw [h2]; rfl
  have h3' : ¬ nI (hl B) < 20 := nI_nlt (b := 20) (by omega) (by omega)
  have h4' : nI (hl B) ≤ nI n := nI_le (by omega) (by omega)
  have l2 := n2_lt hb.1 2
  have q2 : F_89 f 61 2 (hq z w c s) = some (.inl (some (.int (nI (n2 B 2)))), hq z w c s) := n89 (t := 2) kq_61 hb hn (by omega) (by omega)
  have hz : va_up z 52 (upd (z 52) 12 (nI (n2 B 2))) = zS z (nI (n2 B 2)) := rfl
  have hb2 := mb_zS (r := 61) (nI (n2 B 2)) (by omega) hb
  have h5' : ¬ nI (n2 B 2) < nI (hl B) := nI_nlt (by omega) (by omega)
  have h6' : nI (n2 B 2) ≤ nI n := nI_le (by omega) (by omega)
  have q87 : F_87 f 61 0 (nI (hl B)) 10 (hq (zS z (nI (n2 B 2))) w c s) = some (.inl (some (.int (nI (ck (sN B 0 10 (hl B)))))), hq (zS z (nI (n2 B 2))) w c s) := t87 (at_ := 0) (sk := 10) (N := 4100) (fun z => kq_61) (by omega) (by omega) (by omega) hb.1 (fun i _ h _ _ => hb2.2 i (by omega)) (by omega)
  have q10 : F_89 f 61 10 (hq (zS z (nI (n2 B 2))) w c s) = some (.inl (some (.int (nI (n2 B 10)))), hq (zS z (nI (n2 B 2))) w c s) := n89 (t := 10) kq_61 hb2 hn (by omega) (by omega)
  have q6 : F_89 f 61 6 (hq (zS z (nI (n2 B 2))) w c s) = some (.inl (some (.int (nI (n2 B 6)))), hq (zS z (nI (n2 B 2))) w c s) := n89 (t := 6) kq_61 hb2 hn (by omega) (by omega)
  have l10 := n2_lt hb.1 10
  have lck := ck_lt (sN B 0 10 (hl B))
  have h7' : nI (ck (sN B 0 10 (hl B))) = nI (n2 B 10) := by rw [h5]
  have i12 : ev_in 12 4100 = true := by decide
  have c12 : Int32.toNatClampNeg 12 = 12 := rfl
  have b12 := hb.1 12
  have v12 : zS z (nI (n2 B 2)) 61 12 = nI (B 12) := hb2.2 12 (by omega)
  have l6 := n2_lt hb.1 6
  have q108 := m108 (f := f) b12 (hq (zS z (nI (n2 B 2))) w c s)
  have e81 := (nI_mask (a := n2 B 6) (by omega)).2.2.1
  have e8 : (8 : Int32) * nI (n2 B 6 % 8192) = nI (n2 B 6 % 8192 * 8) := by rw [show (8 : Int32) = nI 8 from rfl, nI_mulN, Nat.mul_comm]
  have e9 : nI (n2 B 6 % 8192 * 8) + nI (n2 B 2) - nI (hl B) = nI (n2 B 6 % 8192 * 8 + (n2 B 2 - hl B)) := by
    rw [nI_add, nI_subN (by omega)]; exact congrArg nI (by omega)
  by_cases h8 : B 12 = 127 ∨ 223 < B 12
  · simp only [F_111, ec_ge, ec_eq, ec_lt, ec_le, ec_ne, ec_gt, h1', decide_true, decide_false, db_1, db_0, kq_52, pq_52_10, dp_1, dg_1, aq_61, i0, c0, hq_z, v0, e4, e15, hm, h2', h3', h4', q2, di_1, hq_wz, dl_1, hz, zS_12, h5', h6', q87, q10, h7', q6, i12, c12, v12, q108, e81, e8, e9, h8, if_true, show ¬ (1 : Int32) = 0 by decide, not_false_eq_true, B_111_147]
  · have hA' : ¬ nI (n2 B 6 % 8192 * 8 + (n2 B 2 - hl B)) ≤ 65535 := nI_ge (a := 65535) (by omega) (by omega)
    simp only [F_111, ec_ge, ec_eq, ec_lt, ec_le, ec_ne, ec_gt, h1', decide_true, decide_false, db_1, db_0, kq_52, pq_52_10, dp_1, dg_1, aq_61, i0, c0, hq_z, v0, e4, e15, hm, h2', h3', h4', q2, di_1, hq_wz, dl_1, hz, zS_12, h5', h6', q87, q10, h7', q6, i12, c12, v12, q108, e81, e8, e9, h8, if_false, not_true_eq_false, hA', B_111_147]
theorem m111_7 {t : Nat} {h7 : hp_T} {n : Nat} {p : Int32} (hb : mb z 61 n B) (hn : n ≤ 4100) (h1 : ¬ n < 20) (h2 : B 0 / 16 = 4) (h3 : ¬ (hl B < 20 ∨ n < hl B)) (h4 : ¬ (n2 B 2 < hl B ∨ n < n2 B 2)) (hf : 100 < f) (h5 : ck (sN B 0 10 (hl B)) = n2 B 10) (h6 : ¬ (B 12 = 127 ∨ 223 < B 12 ∨ 65535 < n2 B 6 % 8192 * 8 + (n2 B 2 - hl B))) (ho : wo B = some t) (ht : ¬ nI t = -1) (hc : F_98 f 52 p 12 0 (nI t <<< ((24 : Int32) &&& 31)) (hq (zS z (nI (n2 B 2))) w c s) = some (.inl none, h7)) : F_111 f 52 p (nI n) (hq z w c s) = some (.inl (some (.int 7)), h7) := by
  have h1' : (20 : Int32) ≤ nI n := nI_le (a := 20) (by omega) (by omega)
  have b0 := hb.1 0
  have v0 := hb.2 0 (by omega)
  have i0 : ev_in 0 4100 = true := by decide
  have c0 : Int32.toNatClampNeg 0 = 0 := rfl
  have e15 := (nI_mask (a := B 0) (by omega)).1
  have e4 : nI (B 0) >>> ((4 : Int32) &&& 31) = nI (B 0 / 16) := (nI_shr (by omega)).2.2.2
  have hm := hl_m (B := B)
  have hL := hl_le B
  have h2' : nI (B 0 / 16) = 4 := by rw [h2]; rfl
  have h3' : ¬ nI (hl B) < 20 := nI_nlt (b := 20) (by omega) (by omega)
  have h4' : nI (hl B) ≤ nI n := nI_le (by omega) (by omega)
  have l2 := n2_lt hb.1 2
  have q2 : F_89 f 61 2 (hq z w c s) = some (.inl (some (.int (nI (n2 B 2)))), hq z w c s) := n89 (t := 2) kq_61 hb hn (by omega) (by omega)
  have hz : va_up z 52 (upd (z 52) 12 (nI (n2 B 2))) = zS z (nI (n2 B 2)) := rfl
  have hb2 := mb_zS (r := 61) (nI (n2 B 2)) (by omega) hb
  have h5' : ¬ nI (n2 B 2) < nI (hl B) := nI_nlt (by omega) (by omega)
  have h6' : nI (n2 B 2) ≤ nI n := nI_le (by omega) (by omega)
  have q87 : F_87 f 61 0 (nI (hl B)) 10 (hq (zS z (nI (n2 B 2))) w c s) = some (.inl (some (.int (nI (ck (sN B 0 10 (hl B)))))), hq (zS z (nI (n2 B 2))) w c s) := t87 (at_ := 0) (sk := 10) (N := 4100) (fun z => kq_61) (by omega) (by omega) (by omega) hb.1 (fun i _ h _ _ => hb2.2 i (by omega)) (by omega)
  have q10 : F_89 f 61 10 (hq (zS z (nI (n2 B 2))) w c s) = some (.inl (some (.int (nI (n2 B 10)))), hq (zS z (nI (n2 B 2))) w c s) := n89 (t := 10) kq_61 hb2 hn (by omega) (by omega)
  have q6 : F_89 f 61 6 (hq (zS z (nI (n2 B 2))) w c s) = some (.inl (some (.int (nI (n2 B 6)))), hq (zS z (nI (n2 B 2))) w c s) := n89 (t := 6) kq_61 hb2 hn (by omega) (by omega)
  have l10 := n2_lt hb.1 10
  have lck := ck_lt (sN B 0 10 (hl B))
  have h7' : nI (ck (sN B 0 10 (hl B))) = nI (n2 B 10) := by rw [h5]
  have i12 : ev_in 12 4100 = true := by decide
  have c12 : Int32.toNatClampNeg 12 = 12 := rfl
  have b12 := hb.1 12
  have v12 : zS z (nI (n2 B 2)) 61 12 = nI (B 12) := hb2.2 12 (by omega)
  have l6 := n2_lt hb.1 6
  have q108 := m108 (f := f) b12 (hq (zS z (nI (n2 B 2))) w c s)
  have e81 := (nI_mask (a := n2 B 6) (by omega)).2.2.1
  have e8 : (8 : Int32) * nI (n2 B 6 % 8192) = nI (n2 B 6 % 8192 * 8) := by rw [show (8 : Int32) = nI 8 from rfl, nI_mulN, Nat.mul_comm]
  have e9 : nI (n2 B 6 % 8192 * 8) + nI (n2 B 2) - nI (hl B) = nI (n2 B 6 % 8192 * 8 + (n2 B 2 - hl B)) := by
    rw [nI_add, nI_subN (by omega)]; exact congrArg nI (by omega)
  have h8 : ¬ (B 12 = 127 ∨ 223 < B 12) := by omega
  have hA' : nI (n2 B 6 % 8192 * 8 + (n2 B 2 - hl B)) ≤ 65535 := nI_le (b := 65535) (by omega) (by omega)
  have q107 := m107 (f := f) (w := w) (c := c) (s := s) hb2 hn (by omega) (by omega) (by omega)
  simp only [F_111, ec_ge, ec_eq, ec_lt, ec_le, ec_ne, ec_gt, h1', decide_true, decide_false, db_1, db_0, kq_52, pq_52_10, dp_1, dg_1, aq_61, i0, c0, hq_z, v0, e4, e15, hm, h2', h3', h4', q2, di_1, hq_wz, dl_1, hz, zS_12, h5', h6', q87, q10, h7', q6, i12, c12, v12, q108, e81, e8, e9, h8, if_false, not_true_eq_false, not_false_eq_true, hA', q107, ho, woI, ht, hc, dv_1]
theorem m111_8 {v : Int32} {h7 : hp_T} {n : Nat} {p : Int32} (hb : mb z 61 n B) (hn : n ≤ 4100) (h1 : ¬ n < 20) (h2 : B 0 / 16 = 4) (h3 : ¬ (hl B < 20 ∨ n < hl B)) (h4 : ¬ (n2 B 2 < hl B ∨ n < n2 B 2)) (hf : 100 < f) (h5 : ck (sN B 0 10 (hl B)) = n2 B 10) (h6 : ¬ (B 12 = 127 ∨ 223 < B 12 ∨ 65535 < n2 B 6 % 8192 * 8 + (n2 B 2 - hl B))) (ho : wo B = none) (hw : F_106 f 52 (nI (n4 B 16)) (hq (zS z (nI (n2 B 2))) w c s) = some (.inl (some (.int 0)), hq (zS z (nI (n2 B 2))) w c s)) (hc : F_110 f 52 p (hq (zS z (nI (n2 B 2))) w c s) = some (.inl (some (.int v)), h7)) : F_111 f 52 p (nI n) (hq z w c s) = some (.inl (some (.int v)), h7) := by
  have h1' : (20 : Int32) ≤ nI n := nI_le (a := 20) (by omega) (by omega)
  have b0 := hb.1 0
  have v0 := hb.2 0 (by omega)
  have i0 : ev_in 0 4100 = true := by decide
  have c0 : Int32.toNatClampNeg 0 = 0 := rfl
  have e15 := (nI_mask (a := B 0) (by omega)).1
  have e4 : nI (B 0) >>> ((4 : Int32) &&& 31) = nI (B 0 / 16) := (nI_shr (by omega)).2.2.2
  have hm := hl_m (B := B)
  have hL := hl_le B
  have h2' : nI (B 0 / 16) = 4 := by rw [h2]; rfl
  have h3' : ¬ nI (hl B) < 20 := nI_nlt (b := 20) (by omega) (by omega)
  have h4' : nI (hl B) ≤ nI n := nI_le (by omega) (by omega)
  have l2 := n2_lt hb.1 2
  have q2 : F_89 f 61 2 (hq z w c s) = some (.inl (some (.int (nI (n2 B 2)))), hq z w c s) := n89 (t := 2) kq_61 hb hn (by omega) (by omega)
  have hz : va_up z 52 (upd (z 52) 12 (nI (n2 B 2))) = zS z (nI (n2 B 2)) := rfl
  have hb2 := mb_zS (r := 61) (nI (n2 B 2)) (by omega) hb
  have h5' : ¬ nI (n2 B 2) < nI (hl B) := nI_nlt (by omega) (by omega)
  have h6' : nI (n2 B 2) ≤ nI n := nI_le (by omega) (by omega)
  have q87 : F_87 f 61 0 (nI (hl B)) 10 (hq (zS z (nI (n2 B 2))) w c s) = some (.inl (some (.int (nI (ck (sN B 0 10 (hl B)))))), hq (zS z (nI (n2 B 2))) w c s) := t87 (at_ := 0) (sk := 10) (N := 4100) (fun z => kq_61) (by omega) (by omega) (by omega) hb.1 (fun i _ h _ _ => hb2.2 i (by omega)) (by omega)
  have q10 : F_89 f 61 10 (hq (zS z (nI (n2 B 2))) w c s) = some (.inl (some (.int (nI (n2 B 10)))), hq (zS z (nI (n2 B 2))) w c s) := n89 (t := 10) kq_61 hb2 hn (by omega) (by omega)
  have q6 : F_89 f 61 6 (hq (zS z (nI (n2 B 2))) w c s) = some (.inl (some (.int (nI (n2 B 6)))), hq (zS z (nI (n2 B 2))) w c s) := n89 (t := 6) kq_61 hb2 hn (by omega) (by omega)
  have l10 := n2_lt hb.1 10
  have lck := ck_lt (sN B 0 10 (hl B))
  have h7' : nI (ck (sN B 0 10 (hl B))) = nI (n2 B 10) := by rw [h5]
  have i12 : ev_in 12 4100 = true := by decide
  have c12 : Int32.toNatClampNeg 12 = 12 := rfl
  have b12 := hb.1 12
  have v12 : zS z (nI (n2 B 2)) 61 12 = nI (B 12) := hb2.2 12 (by omega)
  have l6 := n2_lt hb.1 6
  have q108 := m108 (f := f) b12 (hq (zS z (nI (n2 B 2))) w c s)
  have e81 := (nI_mask (a := n2 B 6) (by omega)).2.2.1
  have e8 : (8 : Int32) * nI (n2 B 6 % 8192) = nI (n2 B 6 % 8192 * 8) := by rw [show (8 : Int32) = nI 8 from rfl, nI_mulN, Nat.mul_comm]
  have e9 : nI (n2 B 6 % 8192 * 8) + nI (n2 B 2) - nI (hl B) = nI (n2 B 6 % 8192 * 8 + (n2 B 2 - hl B)) := by
    rw [nI_add, nI_subN (by omega)]; exact congrArg nI (by omega)
  have h8 : ¬ (B 12 = 127 ∨ 223 < B 12) := by omega
  have hA' : nI (n2 B 6 % 8192 * 8 + (n2 B 2 - hl B)) ≤ 65535 := nI_le (b := 65535) (by omega) (by omega)
  have q107 := m107 (f := f) (w := w) (c := c) (s := s) hb2 hn (by omega) (by omega) (by omega)
  have q90 : F_90 f 61 16 (hq (zS z (nI (n2 B 2))) w c s) = some (.inl (some (.int (nI (n4 B 16)))), hq (zS z (nI (n2 B 2))) w c s) := n90 (t := 16) kq_61 hb2 hn (by omega) (by omega)
  simp only [F_111, ec_ge, ec_eq, ec_lt, ec_le, ec_ne, ec_gt, h1', decide_true, decide_false, db_1, db_0, kq_52, pq_52_10, dp_1, dg_1, aq_61, i0, c0, hq_z, v0, e4, e15, hm, h2', h3', h4', q2, di_1, hq_wz, dl_1, hz, zS_12, h5', h6', q87, q10, h7', q6, i12, c12, v12, q108, e81, e8, e9, h8, if_false, not_true_eq_false, not_false_eq_true, hA', q107, ho, woI, q90, hw, hc]
theorem m111_9 {v : Int32} {h7 : hp_T} {n : Nat} {p : Int32} (hb : mb z 61 n B) (hn : n ≤ 4100) (h1 : ¬ n < 20) (h2 : B 0 / 16 = 4) (h3 : ¬ (hl B < 20 ∨ n < hl B)) (h4 : ¬ (n2 B 2 < hl B ∨ n < n2 B 2)) (hf : 100 < f) (h5 : ck (sN B 0 10 (hl B)) = n2 B 10) (h6 : ¬ (B 12 = 127 ∨ 223 < B 12 ∨ 65535 < n2 B 6 % 8192 * 8 + (n2 B 2 - hl B))) (ho : wo B = none) (hw : F_106 f 52 (nI (n4 B 16)) (hq (zS z (nI (n2 B 2))) w c s) = some (.inl (some (.int 1)), hq (zS z (nI (n2 B 2))) w c s)) (hp : n2 B 6 % 16384 = 0) (hc : F_109 f 52 p (hq (zS z (nI (n2 B 2))) w c s) = some (.inl (some (.int v)), h7)) : F_111 f 52 p (nI n) (hq z w c s) = some (.inl (some (.int v)), h7) := by
  have h1' : (20 : Int32) ≤ nI n := nI_le (a := 20) (by omega) (by omega)
  have b0 := hb.1 0
  have v0 := hb.2 0 (by omega)
  have i0 : ev_in 0 4100 = true := by decide
  have c0 : Int32.toNatClampNeg 0 = 0 := rfl
  have e15 := (nI_mask (a := B 0) (by omega)).1
  have e4 : nI (B 0) >>> ((4 : Int32) &&& 31) = nI (B 0 / 16) := (nI_shr (by omega)).2.2.2
  have hm := hl_m (B := B)
  have hL := hl_le B
  have h2' : nI (B 0 / 16) = 4 := by rw [h2]; rfl
  have h3' : ¬ nI (hl B) < 20 := nI_nlt (b := 20) (by omega) (by omega)
  have h4' : nI (hl B) ≤ nI n := nI_le (by omega) (by omega)
  have l2 := n2_lt hb.1 2
  have q2 : F_89 f 61 2 (hq z w c s) = some (.inl (some (.int (nI (n2 B 2)))), hq z w c s) := n89 (t := 2) kq_61 hb hn (by omega) (by omega)
  have hz : va_up z 52 (upd (z 52) 12 (nI (n2 B 2))) = zS z (nI (n2 B 2)) := rfl
  have hb2 := mb_zS (r := 61) (nI (n2 B 2)) (by omega) hb
  have h5' : ¬ nI (n2 B 2) < nI (hl B) := nI_nlt (by omega) (by omega)
  have h6' : nI (n2 B 2) ≤ nI n := nI_le (by omega) (by omega)
  have q87 : F_87 f 61 0 (nI (hl B)) 10 (hq (zS z (nI (n2 B 2))) w c s) = some (.inl (some (.int (nI (ck (sN B 0 10 (hl B)))))), hq (zS z (nI (n2 B 2))) w c s) := t87 (at_ := 0) (sk := 10) (N := 4100) (fun z => kq_61) (by omega) (by omega) (by omega) hb.1 (fun i _ h _ _ => hb2.2 i (by omega)) (by omega)
  have q10 : F_89 f 61 10 (hq (zS z (nI (n2 B 2))) w c s) = some (.inl (some (.int (nI (n2 B 10)))), hq (zS z (nI (n2 B 2))) w c s) := n89 (t := 10) kq_61 hb2 hn (by omega) (by omega)
  have q6 : F_89 f 61 6 (hq (zS z (nI (n2 B 2))) w c s) = some (.inl (some (.int (nI (n2 B 6)))), hq (zS z (nI (n2 B 2))) w c s) := n89 (t := 6) kq_61 hb2 hn (by omega) (by omega)
  have l10 := n2_lt hb.1 10
  have lck := ck_lt (sN B 0 10 (hl B))
  have h7' : nI (ck (sN B 0 10 (hl B))) = nI (n2 B 10) := by rw [h5]
  have i12 : ev_in 12 4100 = true := by decide
  have c12 : Int32.toNatClampNeg 12 = 12 := rfl
  have b12 := hb.1 12
  have v12 : zS z (nI (n2 B 2)) 61 12 = nI (B 12) := hb2.2 12 (by omega)
  have l6 := n2_lt hb.1 6
  have q108 := m108 (f := f) b12 (hq (zS z (nI (n2 B 2))) w c s)
  have e81 := (nI_mask (a := n2 B 6) (by omega)).2.2.1
  have e8 : (8 : Int32) * nI (n2 B 6 % 8192) = nI (n2 B 6 % 8192 * 8) := by rw [show (8 : Int32) = nI 8 from rfl, nI_mulN, Nat.mul_comm]
  have e9 : nI (n2 B 6 % 8192 * 8) + nI (n2 B 2) - nI (hl B) = nI (n2 B 6 % 8192 * 8 + (n2 B 2 - hl B)) := by
    rw [nI_add, nI_subN (by omega)]; exact congrArg nI (by omega)
  have h8 : ¬ (B 12 = 127 ∨ 223 < B 12) := by omega
  have hA' : nI (n2 B 6 % 8192 * 8 + (n2 B 2 - hl B)) ≤ 65535 := nI_le (b := 65535) (by omega) (by omega)
  have q107 := m107 (f := f) (w := w) (c := c) (s := s) hb2 hn (by omega) (by omega) (by omega)
  have q90 : F_90 f 61 16 (hq (zS z (nI (n2 B 2))) w c s) = some (.inl (some (.int (nI (n4 B 16)))), hq (zS z (nI (n2 B 2))) w c s) := n90 (t := 16) kq_61 hb2 hn (by omega) (by omega)
  have i6 : ev_in 6 4100 = true := by decide
  have c6 : Int32.toNatClampNeg 6 = 6 := rfl
  have v6 : zS z (nI (n2 B 2)) 61 6 = nI (B 6) := hb2.2 6 (by omega)
  have b6 := hb.1 6
  have b7 := hb.1 7
  have e32 := (nI_bit (a := B 6) (by omega)).2.2.1
  have hw2 : ¬ (1 : Int32) = 0 := by decide
  have h62 : n2 B 6 / 8192 % 2 = B 6 / 32 % 2 := by show (B 6 * 256 + B 7) / 8192 % 2 = B 6 / 32 % 2; omega
  have g1 : n2 B 6 % 8192 * 8 = 0 := by omega
  have g2 : B 6 / 32 % 2 * 32 = 0 := by omega
  have g3 : ¬ (0 : Int32) < nI (n2 B 6 % 8192 * 8) := by rw [g1]; decide
  simp only [F_111, ec_ge, ec_eq, ec_lt, ec_le, ec_ne, ec_gt, h1', decide_true, decide_false, db_1, db_0, kq_52, pq_52_10, dp_1, dg_1, aq_61, i0, c0, hq_z, v0, e4, e15, hm, h2', h3', h4', q2, di_1, hq_wz, dl_1, hz, zS_12, h5', h6', q87, q10, h7', q6, i12, c12, v12, q108, e81, e8, e9, h8, if_false, not_true_eq_false, not_false_eq_true, hA', q107, ho, woI, q90, hw, hw2, i6, c6, v6, e32, B_111_219, B_111_224, B_111_244, B_111_249, g2, nI_0, g3, show (0 : Int32) ≤ 0 by decide, hc]
theorem m111_A {v : Int32} {H6 H7 : hp_T} {n : Nat} {p : Int32} (hb : mb z 61 n B) (hn : n ≤ 4100) (h1 : ¬ n < 20) (h2 : B 0 / 16 = 4) (h3 : ¬ (hl B < 20 ∨ n < hl B)) (h4 : ¬ (n2 B 2 < hl B ∨ n < n2 B 2)) (hf : 100 < f) (h5 : ck (sN B 0 10 (hl B)) = n2 B 10) (h6 : ¬ (B 12 = 127 ∨ 223 < B 12 ∨ 65535 < n2 B 6 % 8192 * 8 + (n2 B 2 - hl B))) (ho : wo B = none) (hw : F_106 f 52 (nI (n4 B 16)) (hq (zS z (nI (n2 B 2))) w c s) = some (.inl (some (.int 1)), hq (zS z (nI (n2 B 2))) w c s)) (hp : ¬ n2 B 6 % 16384 = 0) {x : Int32} (hd : F_105 f 52 p (hq (zS z (nI (n2 B 2))) w c s) = some (.inl (some (.int x)), H7)) (hk7 : hp_k H7 52 = some (8, 0)) (hc : (x = 0 ∧ v = 10 ∧ H6 = H7) ∨ (¬ x = 0 ∧ F_109 f 52 p H7 = some (.inl (some (.int v)), H6))) : F_111 f 52 p (nI n) (hq z w c s) = some (.inl (some (.int v)), H6) := by
  have h1' : (20 : Int32) ≤ nI n := nI_le (a := 20) (by omega) (by omega)
  have b0 := hb.1 0
  have v0 := hb.2 0 (by omega)
  have i0 : ev_in 0 4100 = true := by decide
  have c0 : Int32.toNatClampNeg 0 = 0 := rfl
  have e15 := (nI_mask (a := B 0) (by omega)).1
  have e4 : nI (B 0) >>> ((4 : Int32) &&& 31) = nI (B 0 / 16) := (nI_shr (by omega)).2.2.2
  have hm := hl_m (B := B)
  have hL := hl_le B
  have h2' : nI (B 0 / 16) = 4 := by rw [h2]; rfl
  have h3' : ¬ nI (hl B) < 20 := nI_nlt (b := 20) (by omega) (by omega)
  have h4' : nI (hl B) ≤ nI n := nI_le (by omega) (by omega)
  have l2 := n2_lt hb.1 2
  have q2 : F_89 f 61 2 (hq z w c s) = some (.inl (some (.int (nI (n2 B 2)))), hq z w c s) := n89 (t := 2) kq_61 hb hn (by omega) (by omega)
  have hz : va_up z 52 (upd (z 52) 12 (nI (n2 B 2))) = zS z (nI (n2 B 2)) := rfl
  have hb2 := mb_zS (r := 61) (nI (n2 B 2)) (by omega) hb
  have h5' : ¬ nI (n2 B 2) < nI (hl B) := nI_nlt (by omega) (by omega)
  have h6' : nI (n2 B 2) ≤ nI n := nI_le (by omega) (by omega)
  have q87 : F_87 f 61 0 (nI (hl B)) 10 (hq (zS z (nI (n2 B 2))) w c s) = some (.inl (some (.int (nI (ck (sN B 0 10 (hl B)))))), hq (zS z (nI (n2 B 2))) w c s) := t87 (at_ := 0) (sk := 10) (N := 4100) (fun z => kq_61) (by omega) (by omega) (by omega) hb.1 (fun i _ h _ _ => hb2.2 i (by omega)) (by omega)
  have q10 : F_89 f 61 10 (hq (zS z (nI (n2 B 2))) w c s) = some (.inl (some (.int (nI (n2 B 10)))), hq (zS z (nI (n2 B 2))) w c s) := n89 (t := 10) kq_61 hb2 hn (by omega) (by omega)
  have q6 : F_89 f 61 6 (hq (zS z (nI (n2 B 2))) w c s) = some (.inl (some (.int (nI (n2 B 6)))), hq (zS z (nI (n2 B 2))) w c s) := n89 (t := 6) kq_61 hb2 hn (by omega) (by omega)
  have l10 := n2_lt hb.1 10
  have lck := ck_lt (sN B 0 10 (hl B))
  have h7' : nI (ck (sN B 0 10 (hl B))) = nI (n2 B 10) := by rw [h5]
  have i12 : ev_in 12 4100 = true := by decide
  have c12 : Int32.toNatClampNeg 12 = 12 := rfl
  have b12 := hb.1 12
  have v12 : zS z (nI (n2 B 2)) 61 12 = nI (B 12) := hb2.2 12 (by omega)
  have l6 := n2_lt hb.1 6
  have q108 := m108 (f := f) b12 (hq (zS z (nI (n2 B 2))) w c s)
  have e81 := (nI_mask (a := n2 B 6) (by omega)).2.2.1
  have e8 : (8 : Int32) * nI (n2 B 6 % 8192) = nI (n2 B 6 % 8192 * 8) := by rw [show (8 : Int32) = nI 8 from rfl, nI_mulN, Nat.mul_comm]
  have e9 : nI (n2 B 6 % 8192 * 8) + nI (n2 B 2) - nI (hl B) = nI (n2 B 6 % 8192 * 8 + (n2 B 2 - hl B)) := by
    rw [nI_add, nI_subN (by omega)]; exact congrArg nI (by omega)
  have h8 : ¬ (B 12 = 127 ∨ 223 < B 12) := by omega
  have hA' : nI (n2 B 6 % 8192 * 8 + (n2 B 2 - hl B)) ≤ 65535 := nI_le (b := 65535) (by omega) (by omega)
  have q107 := m107 (f := f) (w := w) (c := c) (s := s) hb2 hn (by omega) (by omega) (by omega)
  have q90 : F_90 f 61 16 (hq (zS z (nI (n2 B 2))) w c s) = some (.inl (some (.int (nI (n4 B 16)))), hq (zS z (nI (n2 B 2))) w c s) := n90 (t := 16) kq_61 hb2 hn (by omega) (by omega)
  have i6 : ev_in 6 4100 = true := by decide
  have c6 : Int32.toNatClampNeg 6 = 6 := rfl
  have v6 : zS z (nI (n2 B 2)) 61 6 = nI (B 6) := hb2.2 6 (by omega)
  have b6 := hb.1 6
  have b7 := hb.1 7
  have e32 := (nI_bit (a := B 6) (by omega)).2.2.1
  have hw2 : ¬ (1 : Int32) = 0 := by decide
  have h62 : n2 B 6 / 8192 % 2 = B 6 / 32 % 2 := by show (B 6 * 256 + B 7) / 8192 % 2 = B 6 / 32 % 2; omega
  have key : B_111_219 f 52 p (hq (zS z (nI (n2 B 2))) w c s) = some (.inl (some (.int v)), H6) := by
    rcases hc with ⟨g1, g2, g3⟩ | ⟨g1, g2⟩
    · simp only [B_111_219, B_111_224, B_111_249, ec_eq, ec_ne, hw2, decide_false, db_0, kq_52, decide_true, dg_1, hd, di_1, g1, not_true_eq_false, g2, g3]
    · simp only [B_111_219, B_111_224, B_111_244, B_111_249, ec_eq, ec_ne, hw2, decide_false, db_0, kq_52, decide_true, dg_1, hd, di_1, g1, not_false_eq_true, db_1, hk7, g2]
  by_cases g1 : n2 B 6 % 8192 * 8 = 0
  · have g2 : ¬ nI (B 6 / 32 % 2 * 32) ≤ 0 := nI_nle (by omega) (by omega)
    have g3 : ¬ (0 : Int32) < nI (n2 B 6 % 8192 * 8) := by rw [g1]; decide
    simp only [F_111, ec_ge, ec_eq, ec_lt, ec_le, ec_ne, ec_gt, h1', decide_true, decide_false, db_1, db_0, kq_52, pq_52_10, dp_1, dg_1, aq_61, i0, c0, hq_z, v0, e4, e15, hm, h2', h3', h4', q2, di_1, hq_wz, dl_1, hz, zS_12, h5', h6', q87, q10, h7', q6, i12, c12, v12, q108, e81, e8, e9, h8, if_false, not_true_eq_false, not_false_eq_true, hA', q107, ho, woI, q90, hw, hw2, i6, c6, v6, e32, g2, nI_0, g3, key]
  · have g2 : (0 : Int32) < nI (n2 B 6 % 8192 * 8) := nI_lt (a := 0) (by omega) (by omega)
    simp only [F_111, ec_ge, ec_eq, ec_lt, ec_le, ec_ne, ec_gt, h1', decide_true, decide_false, db_1, db_0, kq_52, pq_52_10, dp_1, dg_1, aq_61, i0, c0, hq_z, v0, e4, e15, hm, h2', h3', h4', q2, di_1, hq_wz, dl_1, hz, zS_12, h5', h6', q87, q10, h7', q6, i12, c12, v12, q108, e81, e8, e9, h8, if_false, not_true_eq_false, not_false_eq_true, hA', q107, ho, woI, q90, hw, hw2, g2, key]
end Judge55
