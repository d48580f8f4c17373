section Ops15
variable {z z2 : Nat → Nat → Int32} {w : Nat → Option Nat} {c s n f : Nat} {v1 v2 v3 v4 v5 : Int32} {S S' : St9} {h : hp_T} {t g : Nat}
theorem shr_0 (x : Int32) : x >>> (0 : Int32) = x := by
  have h1 := sb_shr0 x
  rw [show ((0 : Int32) &&& 31) = 0 by decide] at h1
  exact h1
theorem upd_if (g : Nat → Int32) (k i : Nat) (v : Int32) : upd g k v i = if i = k then v else g i := by
  by_cases e : i = k
  · subst e; rw [pk_us, if_pos rfl]
  · rw [pk_un e, if_neg e]
theorem br_upd {g : Nat → Int32} {k : Nat} {v : Int32} (hg : ∀ i, br (g i)) (hv : br v) : ∀ i, br (upd g k v i) := fun i => by
  rw [upd_if]
  split
  · exact hv
  · exact hg i
theorem br_w4 {g : Nat → Int32} {k : Nat} {v : Int32} (hg : ∀ i, br (g i)) : ∀ i, br (w4 g k v i) := br_upd (br_upd (br_upd (br_upd hg (br_n _)) (br_n _)) (br_n _)) (br_n _)
theorem br_w20 {g : Nat → Int32} (hg : ∀ i, br (g i)) : ∀ i, br (w20 g t v1 v2 v3 v4 v5 i) := br_w4 (br_w4 (br_w4 (br_w4 (br_w4 hg))))
theorem c24 : (24 : Int32) &&& 31 = 24 := by decide
theorem c16 : (16 : Int32) &&& 31 = 16 := by decide
theorem c8 : (8 : Int32) &&& 31 = 8 := by decide
theorem u20_lt {B : Nat → Int32} {i : Nat} (hi : i < t) : u20 B t v1 v2 v3 v4 v5 i = B i := by
  unfold u20
  rw [pk_un (by omega), pk_un (by omega), pk_un (by omega), pk_un (by omega), pk_un (by omega), pk_un (by omega), pk_un (by omega), pk_un (by omega), pk_un (by omega), pk_un (by omega), pk_un (by omega), pk_un (by omega), pk_un (by omega), pk_un (by omega), pk_un (by omega), pk_un (by omega), pk_un (by omega), pk_un (by omega), pk_un (by omega), pk_un (by omega)]
theorem w20_lt {B : Nat → Int32} {i : Nat} (hi : i < t) : w20 B t v1 v2 v3 v4 v5 i = B i := by
  unfold w20 w4
  rw [pk_un (by omega), pk_un (by omega), pk_un (by omega), pk_un (by omega), pk_un (by omega), pk_un (by omega), pk_un (by omega), pk_un (by omega), pk_un (by omega), pk_un (by omega), pk_un (by omega), pk_un (by omega), pk_un (by omega), pk_un (by omega), pk_un (by omega), pk_un (by omega), pk_un (by omega), pk_un (by omega), pk_un (by omega), pk_un (by omega)]

theorem wu_0 {A B : Nat → Int32} : w20 A t v1 v2 v3 v4 v5 (t + 0) &&& 255 = u20 B t v1 v2 v3 v4 v5 (t + 0) := by
  have h1 : u20 B t v1 v2 v3 v4 v5 (t + 0) = (v1 >>> (24 : Int32)) &&& 255 := by
    unfold u20
    rw [pk_un (by omega), pk_un (by omega), pk_un (by omega), pk_un (by omega), pk_un (by omega), pk_un (by omega), pk_un (by omega), pk_un (by omega), pk_un (by omega), pk_un (by omega), pk_un (by omega), pk_un (by omega), pk_un (by omega), pk_un (by omega), pk_un (by omega), pk_un (by omega), pk_un (by omega), pk_un (by omega), pk_un (by omega), pk_us]
  have h2 : w20 A t v1 v2 v3 v4 v5 (t) = (v1 >>> ((24 : Int32) &&& 31)).toInt8.toInt32 := by
    unfold w20 w4
    rw [pk_un (by omega), pk_un (by omega), pk_un (by omega), pk_un (by omega), pk_un (by omega), pk_un (by omega), pk_un (by omega), pk_un (by omega), pk_un (by omega), pk_un (by omega), pk_un (by omega), pk_un (by omega), pk_un (by omega), pk_un (by omega), pk_un (by omega), pk_un (by omega), pk_un (by omega), pk_un (by omega), pk_un (by omega), pk_us]
  have h3 : w20 A t v1 v2 v3 v4 v5 (t + 0) = (v1 >>> ((24 : Int32) &&& 31)).toInt8.toInt32 := h2
  rw [h1, h3, by_and, c24]
theorem wu_1 {A B : Nat → Int32} : w20 A t v1 v2 v3 v4 v5 (t + 1) &&& 255 = u20 B t v1 v2 v3 v4 v5 (t + 1) := by
  have h1 : u20 B t v1 v2 v3 v4 v5 (t + 1) = (v1 >>> (16 : Int32)) &&& 255 := by
    unfold u20
    rw [pk_un (by omega), pk_un (by omega), pk_un (by omega), pk_un (by omega), pk_un (by omega), pk_un (by omega), pk_un (by omega), pk_un (by omega), pk_un (by omega), pk_un (by omega), pk_un (by omega), pk_un (by omega), pk_un (by omega), pk_un (by omega), pk_un (by omega), pk_un (by omega), pk_un (by omega), pk_un (by omega), pk_us]
  have h2 : w20 A t v1 v2 v3 v4 v5 (t + 1) = (v1 >>> ((16 : Int32) &&& 31)).toInt8.toInt32 := by
    unfold w20 w4
    rw [pk_un (by omega), pk_un (by omega), pk_un (by omega), pk_un (by omega), pk_un (by omega), pk_un (by omega), pk_un (by omega), pk_un (by omega), pk_un (by omega), pk_un (by omega), pk_un (by omega), pk_un (by omega), pk_un (by omega), pk_un (by omega), pk_un (by omega), pk_un (by omega), pk_un (by omega), pk_un (by omega), pk_us]
  have h3 : w20 A t v1 v2 v3 v4 v5 (t + 1) = (v1 >>> ((16 : Int32) &&& 31)).toInt8.toInt32 := h2
  rw [h1, h3, by_and, c16]
theorem wu_2 {A B : Nat → Int32} : w20 A t v1 v2 v3 v4 v5 (t + 2) &&& 255 = u20 B t v1 v2 v3 v4 v5 (t + 2) := by
  have h1 : u20 B t v1 v2 v3 v4 v5 (t + 2) = (v1 >>> (8 : Int32)) &&& 255 := by
    unfold u20
    rw [pk_un (by omega), pk_un (by omega), pk_un (by omega), pk_un (by omega), pk_un (by omega), pk_un (by omega), pk_un (by omega), pk_un (by omega), pk_un (by omega), pk_un (by omega), pk_un (by omega), pk_un (by omega), pk_un (by omega), pk_un (by omega), pk_un (by omega), pk_un (by omega), pk_un (by omega), pk_us]
  have h2 : w20 A t v1 v2 v3 v4 v5 (t + 2) = (v1 >>> ((8 : Int32) &&& 31)).toInt8.toInt32 := by
    unfold w20 w4
    rw [pk_un (by omega), pk_un (by omega), pk_un (by omega), pk_un (by omega), pk_un (by omega), pk_un (by omega), pk_un (by omega), pk_un (by omega), pk_un (by omega), pk_un (by omega), pk_un (by omega), pk_un (by omega), pk_un (by omega), pk_un (by omega), pk_un (by omega), pk_un (by omega), pk_un (by omega), pk_us]
  have h3 : w20 A t v1 v2 v3 v4 v5 (t + 2) = (v1 >>> ((8 : Int32) &&& 31)).toInt8.toInt32 := h2
  rw [h1, h3, by_and, c8]
theorem wu_3 {A B : Nat → Int32} : w20 A t v1 v2 v3 v4 v5 (t + 3) &&& 255 = u20 B t v1 v2 v3 v4 v5 (t + 3) := by
  have h1 : u20 B t v1 v2 v3 v4 v5 (t + 3) = (v1 >>> (0 : Int32)) &&& 255 := by
    unfold u20
    rw [pk_un (by omega), pk_un (by omega), pk_un (by omega), pk_un (by omega), pk_un (by omega), pk_un (by omega), pk_un (by omega), pk_un (by omega), pk_un (by omega), pk_un (by omega), pk_un (by omega), pk_un (by omega), pk_un (by omega), pk_un (by omega), pk_un (by omega), pk_un (by omega), pk_us]
  have h2 : w20 A t v1 v2 v3 v4 v5 (t + 3) = (v1).toInt8.toInt32 := by
    unfold w20 w4
    rw [pk_un (by omega), pk_un (by omega), pk_un (by omega), pk_un (by omega), pk_un (by omega), pk_un (by omega), pk_un (by omega), pk_un (by omega), pk_un (by omega), pk_un (by omega), pk_un (by omega), pk_un (by omega), pk_un (by omega), pk_un (by omega), pk_un (by omega), pk_un (by omega), pk_us]
  have h3 : w20 A t v1 v2 v3 v4 v5 (t + 3) = (v1).toInt8.toInt32 := h2
  rw [h1, h3, by_and, shr_0]
theorem wu_4 {A B : Nat → Int32} : w20 A t v1 v2 v3 v4 v5 (t + 4) &&& 255 = u20 B t v1 v2 v3 v4 v5 (t + 4) := by
  have h1 : u20 B t v1 v2 v3 v4 v5 (t + 4) = (v2 >>> (24 : Int32)) &&& 255 := by
    unfold u20
    rw [pk_un (by omega), pk_un (by omega), pk_un (by omega), pk_un (by omega), pk_un (by omega), pk_un (by omega), pk_un (by omega), pk_un (by omega), pk_un (by omega), pk_un (by omega), pk_un (by omega), pk_un (by omega), pk_un (by omega), pk_un (by omega), pk_un (by omega), pk_us]
  have h2 : w20 A t v1 v2 v3 v4 v5 (t + 4) = (v2 >>> ((24 : Int32) &&& 31)).toInt8.toInt32 := by
    unfold w20 w4
    rw [pk_un (by omega), pk_un (by omega), pk_un (by omega), pk_un (by omega), pk_un (by omega), pk_un (by omega), pk_un (by omega), pk_un (by omega), pk_un (by omega), pk_un (by omega), pk_un (by omega), pk_un (by omega), pk_un (by omega), pk_un (by omega), pk_un (by omega), pk_us]
  have h3 : w20 A t v1 v2 v3 v4 v5 (t + 4) = (v2 >>> ((24 : Int32) &&& 31)).toInt8.toInt32 := h2
  rw [h1, h3, by_and, c24]
theorem wu_5 {A B : Nat → Int32} : w20 A t v1 v2 v3 v4 v5 (t + 5) &&& 255 = u20 B t v1 v2 v3 v4 v5 (t + 5) := by
  have h1 : u20 B t v1 v2 v3 v4 v5 (t + 5) = (v2 >>> (16 : Int32)) &&& 255 := by
    unfold u20
    rw [pk_un (by omega), pk_un (by omega), pk_un (by omega), pk_un (by omega), pk_un (by omega), pk_un (by omega), pk_un (by omega), pk_un (by omega), pk_un (by omega), pk_un (by omega), pk_un (by omega), pk_un (by omega), pk_un (by omega), pk_un (by omega), pk_us]
  have h2 : w20 A t v1 v2 v3 v4 v5 (t + 4 + 1) = (v2 >>> ((16 : Int32) &&& 31)).toInt8.toInt32 := by
    unfold w20 w4
    rw [pk_un (by omega), pk_un (by omega), pk_un (by omega), pk_un (by omega), pk_un (by omega), pk_un (by omega), pk_un (by omega), pk_un (by omega), pk_un (by omega), pk_un (by omega), pk_un (by omega), pk_un (by omega), pk_un (by omega), pk_un (by omega), pk_us]
  have h3 : w20 A t v1 v2 v3 v4 v5 (t + 5) = (v2 >>> ((16 : Int32) &&& 31)).toInt8.toInt32 := h2
  rw [h1, h3, by_and, c16]
theorem wu_6 {A B : Nat → Int32} : w20 A t v1 v2 v3 v4 v5 (t + 6) &&& 255 = u20 B t v1 v2 v3 v4 v5 (t + 6) := by
  have h1 : u20 B t v1 v2 v3 v4 v5 (t + 6) = (v2 >>> (8 : Int32)) &&& 255 := by
    unfold u20
    rw [pk_un (by omega), pk_un (by omega), pk_un (by omega), pk_un (by omega), pk_un (by omega), pk_un (by omega), pk_un (by omega), pk_un (by omega), pk_un (by omega), pk_un (by omega), pk_un (by omega), pk_un (by omega), pk_un (by omega), pk_us]
  have h2 : w20 A t v1 v2 v3 v4 v5 (t + 4 + 2) = (v2 >>> ((8 : Int32) &&& 31)).toInt8.toInt32 := by
    unfold w20 w4
    rw [pk_un (by omega), pk_un (by omega), pk_un (by omega), pk_un (by omega), pk_un (by omega), pk_un (by omega), pk_un (by omega), pk_un (by omega), pk_un (by omega), pk_un (by omega), pk_un (by omega), pk_un (by omega), pk_un (by omega), pk_us]
  have h3 : w20 A t v1 v2 v3 v4 v5 (t + 6) = (v2 >>> ((8 : Int32) &&& 31)).toInt8.toInt32 := h2
  rw [h1, h3, by_and, c8]
theorem wu_7 {A B : Nat → Int32} : w20 A t v1 v2 v3 v4 v5 (t + 7) &&& 255 = u20 B t v1 v2 v3 v4 v5 (t + 7) := by
  have h1 : u20 B t v1 v2 v3 v4 v5 (t + 7) = (v2 >>> (0 : Int32)) &&& 255 := by
    unfold u20
    rw [pk_un (by omega), pk_un (by omega), pk_un (by omega), pk_un (by omega), pk_un (by omega), pk_un (by omega), pk_un (by omega), pk_un (by omega), pk_un (by omega), pk_un (by omega), pk_un (by omega), pk_un (by omega), pk_us]
  have h2 : w20 A t v1 v2 v3 v4 v5 (t + 4 + 3) = (v2).toInt8.toInt32 := by
    unfold w20 w4
    rw [pk_un (by omega), pk_un (by omega), pk_un (by omega), pk_un (by omega), pk_un (by omega), pk_un (by omega), pk_un (by omega), pk_un (by omega), pk_un (by omega), pk_un (by omega), pk_un (by omega), pk_un (by omega), pk_us]
  have h3 : w20 A t v1 v2 v3 v4 v5 (t + 7) = (v2).toInt8.toInt32 := h2
  rw [h1, h3, by_and, shr_0]
theorem wu_8 {A B : Nat → Int32} : w20 A t v1 v2 v3 v4 v5 (t + 8) &&& 255 = u20 B t v1 v2 v3 v4 v5 (t + 8) := by
  have h1 : u20 B t v1 v2 v3 v4 v5 (t + 8) = (v3 >>> (24 : Int32)) &&& 255 := by
    unfold u20
    rw [pk_un (by omega), pk_un (by omega), pk_un (by omega), pk_un (by omega), pk_un (by omega), pk_un (by omega), pk_un (by omega), pk_un (by omega), pk_un (by omega), pk_un (by omega), pk_un (by omega), pk_us]
  have h2 : w20 A t v1 v2 v3 v4 v5 (t + 8) = (v3 >>> ((24 : Int32) &&& 31)).toInt8.toInt32 := by
    unfold w20 w4
    rw [pk_un (by omega), pk_un (by omega), pk_un (by omega), pk_un (by omega), pk_un (by omega), pk_un (by omega), pk_un (by omega), pk_un (by omega), pk_un (by omega), pk_un (by omega), pk_un (by omega), pk_us]
  have h3 : w20 A t v1 v2 v3 v4 v5 (t + 8) = (v3 >>> ((24 : Int32) &&& 31)).toInt8.toInt32 := h2
  rw [h1, h3, by_and, c24]
theorem wu_9 {A B : Nat → Int32} : w20 A t v1 v2 v3 v4 v5 (t + 9) &&& 255 = u20 B t v1 v2 v3 v4 v5 (t + 9) := by
  have h1 : u20 B t v1 v2 v3 v4 v5 (t + 9) = (v3 >>> (16 : Int32)) &&& 255 := by
    unfold u20
    rw [pk_un (by omega), pk_un (by omega), pk_un (by omega), pk_un (by omega), pk_un (by omega), pk_un (by omega), pk_un (by omega), pk_un (by omega), pk_un (by omega), pk_un (by omega), pk_us]
  have h2 : w20 A t v1 v2 v3 v4 v5 (t + 8 + 1) = (v3 >>> ((16 : Int32) &&& 31)).toInt8.toInt32 := by
    unfold w20 w4
    rw [pk_un (by omega), pk_un (by omega), pk_un (by omega), pk_un (by omega), pk_un (by omega), pk_un (by omega), pk_un (by omega), pk_un (by omega), pk_un (by omega), pk_un (by omega), pk_us]
  have h3 : w20 A t v1 v2 v3 v4 v5 (t + 9) = (v3 >>> ((16 : Int32) &&& 31)).toInt8.toInt32 := h2
  rw [h1, h3, by_and, c16]
theorem wu_10 {A B : Nat → Int32} : w20 A t v1 v2 v3 v4 v5 (t + 10) &&& 255 = u20 B t v1 v2 v3 v4 v5 (t + 10) := by
  have h1 : u20 B t v1 v2 v3 v4 v5 (t + 10) = (v3 >>> (8 : Int32)) &&& 255 := by
    unfold u20
    rw [pk_un (by omega), pk_un (by omega), pk_un (by omega), pk_un (by omega), pk_un (by omega), pk_un (by omega), pk_un (by omega), pk_un (by omega), pk_un (by omega), pk_us]
  have h2 : w20 A t v1 v2 v3 v4 v5 (t + 8 + 2) = (v3 >>> ((8 : Int32) &&& 31)).toInt8.toInt32 := by
    unfold w20 w4
    rw [pk_un (by omega), pk_un (by omega), pk_un (by omega), pk_un (by omega), pk_un (by omega), pk_un (by omega), pk_un (by omega), pk_un (by omega), pk_un (by omega), pk_us]
  have h3 : w20 A t v1 v2 v3 v4 v5 (t + 10) = (v3 >>> ((8 : Int32) &&& 31)).toInt8.toInt32 := h2
  rw [h1, h3, by_and, c8]
theorem wu_11 {A B : Nat → Int32} : w20 A t v1 v2 v3 v4 v5 (t + 11) &&& 255 = u20 B t v1 v2 v3 v4 v5 (t + 11) := by
  have h1 : u20 B t v1 v2 v3 v4 v5 (t + 11) = (v3 >>> (0 : Int32)) &&& 255 := by
    unfold u20
    rw [pk_un (by omega), pk_un (by omega), pk_un (by omega), pk_un (by omega), pk_un (by omega), pk_un (by omega), pk_un (by omega), pk_un (by omega), pk_us]
  have h2 : w20 A t v1 v2 v3 v4 v5 (t + 8 + 3) = (v3).toInt8.toInt32 := by
    unfold w20 w4
    rw [pk_un (by omega), pk_un (by omega), pk_un (by omega), pk_un (by omega), pk_un (by omega), pk_un (by omega), pk_un (by omega), pk_un (by omega), pk_us]
  have h3 : w20 A t v1 v2 v3 v4 v5 (t + 11) = (v3).toInt8.toInt32 := h2
  rw [h1, h3, by_and, shr_0]
theorem wu_12 {A B : Nat → Int32} : w20 A t v1 v2 v3 v4 v5 (t + 12) &&& 255 = u20 B t v1 v2 v3 v4 v5 (t + 12) := by
  have h1 : u20 B t v1 v2 v3 v4 v5 (t + 12) = (v4 >>> (24 : Int32)) &&& 255 := by
    unfold u20
    rw [pk_un (by omega), pk_un (by omega), pk_un (by omega), pk_un (by omega), pk_un (by omega), pk_un (by omega), pk_un (by omega), pk_us]
  have h2 : w20 A t v1 v2 v3 v4 v5 (t + 12) = (v4 >>> ((24 : Int32) &&& 31)).toInt8.toInt32 := by
    unfold w20 w4
    rw [pk_un (by omega), pk_un (by omega), pk_un (by omega), pk_un (by omega), pk_un (by omega), pk_un (by omega), pk_un (by omega), pk_us]
  have h3 : w20 A t v1 v2 v3 v4 v5 (t + 12) = (v4 >>> ((24 : Int32) &&& 31)).toInt8.toInt32 := h2
  rw [h1, h3, by_and, c24]
theorem wu_13 {A B : Nat → Int32} : w20 A t v1 v2 v3 v4 v5 (t + 13) &&& 255 = u20 B t v1 v2 v3 v4 v5 (t + 13) := by
  have h1 : u20 B t v1 v2 v3 v4 v5 (t + 13) = (v4 >>> (16 : Int32)) &&& 255 := by
    unfold u20
    rw [pk_un (by omega), pk_un (by omega), pk_un (by omega), pk_un (by omega), pk_un (by omega), pk_un (by omega), pk_us]
  have h2 : w20 A t v1 v2 v3 v4 v5 (t + 12 + 1) = (v4 >>> ((16 : Int32) &&& 31)).toInt8.toInt32 := by
    unfold w20 w4
    rw [pk_un (by omega), pk_un (by omega), pk_un (by omega), pk_un (by omega), pk_un (by omega), pk_un (by omega), pk_us]
  have h3 : w20 A t v1 v2 v3 v4 v5 (t + 13) = (v4 >>> ((16 : Int32) &&& 31)).toInt8.toInt32 := h2
  rw [h1, h3, by_and, c16]
theorem wu_14 {A B : Nat → Int32} : w20 A t v1 v2 v3 v4 v5 (t + 14) &&& 255 = u20 B t v1 v2 v3 v4 v5 (t + 14) := by
  have h1 : u20 B t v1 v2 v3 v4 v5 (t + 14) = (v4 >>> (8 : Int32)) &&& 255 := by
    unfold u20
    rw [pk_un (by omega), pk_un (by omega), pk_un (by omega), pk_un (by omega), pk_un (by omega), pk_us]
  have h2 : w20 A t v1 v2 v3 v4 v5 (t + 12 + 2) = (v4 >>> ((8 : Int32) &&& 31)).toInt8.toInt32 := by
    unfold w20 w4
    rw [pk_un (by omega), pk_un (by omega), pk_un (by omega), pk_un (by omega), pk_un (by omega), pk_us]
  have h3 : w20 A t v1 v2 v3 v4 v5 (t + 14) = (v4 >>> ((8 : Int32) &&& 31)).toInt8.toInt32 := h2
  rw [h1, h3, by_and, c8]
theorem wu_15 {A B : Nat → Int32} : w20 A t v1 v2 v3 v4 v5 (t + 15) &&& 255 = u20 B t v1 v2 v3 v4 v5 (t + 15) := by
  have h1 : u20 B t v1 v2 v3 v4 v5 (t + 15) = (v4 >>> (0 : Int32)) &&& 255 := by
    unfold u20
    rw [pk_un (by omega), pk_un (by omega), pk_un (by omega), pk_un (by omega), pk_us]
  have h2 : w20 A t v1 v2 v3 v4 v5 (t + 12 + 3) = (v4).toInt8.toInt32 := by
    unfold w20 w4
    rw [pk_un (by omega), pk_un (by omega), pk_un (by omega), pk_un (by omega), pk_us]
  have h3 : w20 A t v1 v2 v3 v4 v5 (t + 15) = (v4).toInt8.toInt32 := h2
  rw [h1, h3, by_and, shr_0]
theorem wu_16 {A B : Nat → Int32} : w20 A t v1 v2 v3 v4 v5 (t + 16) &&& 255 = u20 B t v1 v2 v3 v4 v5 (t + 16) := by
  have h1 : u20 B t v1 v2 v3 v4 v5 (t + 16) = (v5 >>> (24 : Int32)) &&& 255 := by
    unfold u20
    rw [pk_un (by omega), pk_un (by omega), pk_un (by omega), pk_us]
  have h2 : w20 A t v1 v2 v3 v4 v5 (t + 16) = (v5 >>> ((24 : Int32) &&& 31)).toInt8.toInt32 := by
    unfold w20 w4
    rw [pk_un (by omega), pk_un (by omega), pk_un (by omega), pk_us]
  have h3 : w20 A t v1 v2 v3 v4 v5 (t + 16) = (v5 >>> ((24 : Int32) &&& 31)).toInt8.toInt32 := h2
  rw [h1, h3, by_and, c24]
theorem wu_17 {A B : Nat → Int32} : w20 A t v1 v2 v3 v4 v5 (t + 17) &&& 255 = u20 B t v1 v2 v3 v4 v5 (t + 17) := by
  have h1 : u20 B t v1 v2 v3 v4 v5 (t + 17) = (v5 >>> (16 : Int32)) &&& 255 := by
    unfold u20
    rw [pk_un (by omega), pk_un (by omega), pk_us]
  have h2 : w20 A t v1 v2 v3 v4 v5 (t + 16 + 1) = (v5 >>> ((16 : Int32) &&& 31)).toInt8.toInt32 := by
    unfold w20 w4
    rw [pk_un (by omega), pk_un (by omega), pk_us]
  have h3 : w20 A t v1 v2 v3 v4 v5 (t + 17) = (v5 >>> ((16 : Int32) &&& 31)).toInt8.toInt32 := h2
  rw [h1, h3, by_and, c16]
theorem wu_18 {A B : Nat → Int32} : w20 A t v1 v2 v3 v4 v5 (t + 18) &&& 255 = u20 B t v1 v2 v3 v4 v5 (t + 18) := by
  have h1 : u20 B t v1 v2 v3 v4 v5 (t + 18) = (v5 >>> (8 : Int32)) &&& 255 := by
    unfold u20
    rw [pk_un (by omega), pk_us]
  have h2 : w20 A t v1 v2 v3 v4 v5 (t + 16 + 2) = (v5 >>> ((8 : Int32) &&& 31)).toInt8.toInt32 := by
    unfold w20 w4
    rw [pk_un (by omega), pk_us]
  have h3 : w20 A t v1 v2 v3 v4 v5 (t + 18) = (v5 >>> ((8 : Int32) &&& 31)).toInt8.toInt32 := h2
  rw [h1, h3, by_and, c8]
theorem wu_19 {A B : Nat → Int32} : w20 A t v1 v2 v3 v4 v5 (t + 19) &&& 255 = u20 B t v1 v2 v3 v4 v5 (t + 19) := by
  have h1 : u20 B t v1 v2 v3 v4 v5 (t + 19) = (v5 >>> (0 : Int32)) &&& 255 := by
    unfold u20
    rw [pk_us]
  have h2 : w20 A t v1 v2 v3 v4 v5 (t + 16 + 3) = (v5).toInt8.toInt32 := by
    unfold w20 w4
    rw [pk_us]
  have h3 : w20 A t v1 v2 v3 v4 v5 (t + 19) = (v5).toInt8.toInt32 := h2
  rw [h1, h3, by_and, shr_0]
theorem wu {A B : Nat → Int32} {i : Nat} (hA : i < t → A i &&& 255 = B i) (hi : i < t + 20) : w20 A t v1 v2 v3 v4 v5 i &&& 255 = u20 B t v1 v2 v3 v4 v5 i := by
  by_cases h1 : i < t
  · rw [w20_lt h1, u20_lt h1]; exact hA h1
  · obtain ⟨j, rfl⟩ : ∃ j, i = t + j := ⟨i - t, by omega⟩
    rcases (show j = 0 ∨ j = 1 ∨ j = 2 ∨ j = 3 ∨ j = 4 ∨ j = 5 ∨ j = 6 ∨ j = 7 ∨ j = 8 ∨ j = 9 ∨ j = 10 ∨ j = 11 ∨ j = 12 ∨ j = 13 ∨ j = 14 ∨ j = 15 ∨ j = 16 ∨ j = 17 ∨ j = 18 ∨ j = 19 by omega) with rfl | rfl | rfl | rfl | rfl | rfl | rfl | rfl | rfl | rfl | rfl | rfl | rfl | rfl | rfl | rfl | rfl | rfl | rfl | rfl
    · exact wu_0
    · exact wu_1
    · exact wu_2
    · exact wu_3
    · exact wu_4
    · exact wu_5
    · exact wu_6
    · exact wu_7
    · exact wu_8
    · exact wu_9
    · exact wu_10
    · exact wu_11
    · exact wu_12
    · exact wu_13
    · exact wu_14
    · exact wu_15
    · exact wu_16
    · exact wu_17
    · exact wu_18
    · exact wu_19
theorem uu {A B : Nat → Int32} {i : Nat} (hA : i < t → A i = B i) (hi : i < t + 20) : u20 A t v1 v2 v3 v4 v5 i = u20 B t v1 v2 v3 v4 v5 i := by
  by_cases h1 : i < t
  · rw [u20_lt h1, u20_lt h1]; exact hA h1
  · have h2 := wu (t := t) (A := A) (B := A) (v1 := v1) (v2 := v2) (v3 := v3) (v4 := v4) (v5 := v5) (fun h => absurd h h1) hi
    have h3 := wu (t := t) (A := A) (B := B) (v1 := v1) (v2 := v2) (v3 := v3) (v4 := v4) (v5 := v5) (fun h => absurd h h1) hi
    exact h2.symm.trans h3
theorem op_feed (hj : Jn n h) (hn : n < 512) : pu_i false 52 85 cd_feed [.int v1, .int v2, .int v3, .int v4, .int v5] h (Jn (n + 1)) := by
  obtain ⟨-, S, z, w, c, s, rfl, hwf, hrc, hrm, hc, hs⟩ := hj
  have hJ := Jn_same hn hwf hrc hrm hc hs
  have e3 := hwf.1.2.1
  have e1 : z 15 1 = nI (cn S 1) := hrc.2.1.2.1.trans e3.1
  have e2 : z 52 9 = nI (cn S 1) := hrm.2.1.2.1.trans e3.1
  have h2000 := e3.2
  by_cases g1 : cn S 1 + 20 ≤ 2000
  · have f1 := t52_r (f := 0) (w := w) (c := c) (s := s) (v1 := v1) (v2 := v2) (v3 := v3) (v4 := v4) (v5 := v5) e1 g1
    generalize hz1 : va_up (va_up z 16 (w20 (z 16) (cn S 1) v1 v2 v3 v4 v5)) 15 (upd (z 15) 1 (nI (cn S 1 + 20))) = z1 at f1
    have k1 : ∀ a, a ≠ 15 → a ≠ 16 → z1 a = z a := fun a h1 h2 => by rw [← hz1, va_up_ne _ _ h1, va_up_ne _ _ h2]
    have k2 : z1 15 1 = nI (cn S 1 + 20) := by rw [← hz1, va_up_self, pk_us]
    have k3 : z1 16 = w20 (z 16) (cn S 1) v1 v2 v3 v4 v5 := by rw [← hz1, va_up_ne _ _ (by omega), va_up_self]
    have f2 := t85_r (f := 21) (z := z1) (w := w) (c := c) (s := s) (v1 := v1) (v2 := v2) (v3 := v3) (v4 := v4) (v5 := v5) (by rw [k1 52 (by omega) (by omega)]; exact e2) g1 (Nat.le_refl 21)
    rw [k1 60 (by omega) (by omega)] at f2
    generalize hz2 : va_up (va_up (z42 z1 0) 60 (u20 (z 60) (cn S 1) v1 v2 v3 v4 v5)) 52 (upd (z42 z1 0 52) 9 (nI (cn S 1 + 20))) = z2 at f2
    have d1 : ∀ a, a ≠ 52 → a ≠ 60 → z2 a = z1 a := fun a h1 h2 => by rw [← hz2, va_up_ne _ _ h1, va_up_ne _ _ h2, z42_n 0 h1]
    have d2 : z2 52 = upd (z42 z1 0 52) 9 (nI (cn S 1 + 20)) := by rw [← hz2, va_up_self]
    have d3 : z2 60 = u20 (z 60) (cn S 1) v1 v2 v3 v4 v5 := by rw [← hz2, va_up_ne _ _ (by omega), va_up_self]
    have s1 : ∀ k, k ≠ 3 → k ≠ 8 → (va_up (va_up S 8 (u20 (S 8) (cn S 1) v1 v2 v3 v4 v5)) 3 (upd (S 3) 1 (nI (cn S 1 + 20))) : St9) k = S k := fun k h1 h2 => by rw [va_up_ne _ _ h1, va_up_ne _ _ h2]
    have s2 : (va_up (va_up S 8 (u20 (S 8) (cn S 1) v1 v2 v3 v4 v5)) 3 (upd (S 3) 1 (nI (cn S 1 + 20))) : St9) 3 = upd (S 3) 1 (nI (cn S 1 + 20)) := by rw [va_up_self]
    have s3 : (va_up (va_up S 8 (u20 (S 8) (cn S 1) v1 v2 v3 v4 v5)) 3 (upd (S 3) 1 (nI (cn S 1 + 20))) : St9) 8 = u20 (S 8) (cn S 1) v1 v2 v3 v4 v5 := by rw [va_up_ne _ _ (by omega), va_up_self]
    generalize (va_up (va_up S 8 (u20 (S 8) (cn S 1) v1 v2 v3 v4 v5)) 3 (upd (S 3) 1 (nI (cn S 1 + 20))) : St9) = S' at s1 s2 s3
    have s4 : ∀ j, j ≠ 1 → S' 3 j = S 3 j := fun j hj => by rw [s2, pk_un hj]
    have s5 : S' 3 1 = nI (cn S 1 + 20) := by rw [s2, pk_us]
    have hcn : cn S' 1 = cn S 1 + 20 := by unfold cn; rw [s5]; exact nI_clamp (by unfold cn at h2000; omega)
    refine pu_i1 (bo := false) (sF_52 f1) (fun h => by cases h) (sF_85 f2) (by rw [d2, pk_un (by omega)]; exact z42_s 0) ⟨by omega, S', z2, w, c, s, rfl, wf_tape hwf s1 s4 ⟨by rw [s5, hcn], by rw [hcn]; exact g1⟩, rc_tape hrc s1 s4 (fun a h5 h6 h7 => by rw [d1 a (by omega) (by omega), k1 a h6 h7]) (by rw [d1 15 (by omega) (by omega), k2, s5]) (fun i hi => ?_) (fun i => ?_), rmd_tape hrm s1 s4 (fun a h5 h6 => by rw [d1 a (by omega) h6, k1 a (by omega) (by omega)]) (fun k h5 h6 => by rw [d2, pk_un h5, z42_52 0 h6, k1 52 (by omega) (by omega)]) (by rw [d2, pk_us, s5]) (fun i hi => ?_), by omega, by omega⟩
    · rw [hcn] at hi
      rw [d1 16 (by omega) (by omega), k3, s3]
      exact wu (fun h => hrc.2.2.2.1 i h) hi
    · rw [d1 16 (by omega) (by omega), k3]
      exact br_w20 (hrc.2.2.2.2.2.2.2.1 16 (by decide)) i
    · rw [hcn] at hi
      rw [d3, s3]
      exact uu (fun h => hrm.2.2.2.1 i h) hi
  · have g2 : ¬ nI (cn S 1 + 20) ≤ 2000 := fun h9 => g1 ((nI_leI (a := cn S 1 + 20) (b := 2000) (by omega) (by omega)).mp h9)
    exact pu_ix (q := 3) (r := 1) (b := 0) (sF_52 (f := 0) (t52_x e1 g2)) rfl (sF_85 (f := 0) (t85_x e2 g2)) (z42_s 1) (hJ 1).2
end Ops15
