-- what class and reference both stand for: S k i, by parts
-- 0 addresses, 1 mtus, 2 isUp of the ports; 3 numbers (0 routes, 1 tape, 2 outs, 3 tokens, 4 replies, 5 time, 6 deliveries, 7 from, 8 to, 9 delivered size, 10 waits, 11 bytes out)
-- 4 beginnings, 5 bits, 6 ways, 7 nexts of the routes; 8 tape; 9 starts, 10 lengths, 11 ways, 12 nexts, 13 bytes of the outs; 14 delivered
-- 15 + e the wait e: 0 source, 1 destination, 2 identity, 3 protocol, 4 since, 5 reach, 6 end known, 7 has first, 8 first port, 100.. its first row, 1000.. its bytes, 6000.. its units there
abbrev St9 : Type := Nat → Nat → Int32
def cn (S : St9) (k : Nat) : Nat := (S 3 k).toNatClampNeg
def br (x : Int32) : Prop := x.toInt8.toInt32 = x
def wfn (S : St9) (k m : Nat) : Prop := S 3 k = nI (cn S k) ∧ cn S k ≤ m
def wf (n : Nat) (S : St9) : Prop := (wfn S 0 400 ∧ wfn S 1 2000 ∧ wfn S 2 50 ∧ wfn S 3 6 ∧ wfn S 4 (4 * n) ∧ wfn S 5 (100 * n) ∧ wfn S 9 4000 ∧ wfn S 10 4 ∧ wfn S 11 5000) ∧
  (∀ i, i < 8 → (∃ m, 100 ≤ m ∧ m ≤ 1500 ∧ S 1 i = nI m) ∧ dz (S 2 i)) ∧
  (∀ i, i < cn S 0 → (∃ m, m ≤ 32 ∧ S 5 i = nI m) ∧ ∃ m, m < 8 ∧ S 6 i = nI m) ∧
  (∀ i, i < cn S 2 → ∃ a m, S 9 i = nI a ∧ S 10 i = nI m ∧ a + m ≤ cn S 11 ∧ m ≤ 2000)
-- numbers of two and four bytes; a header's length
def n2 (B : Nat → Nat) (t : Nat) : Nat := B t * 256 + B (t + 1)
def n4 (B : Nat → Nat) (t : Nat) : Nat := n2 B t * 65536 + n2 B (t + 2)
def hl (B : Nat → Nat) : Nat := B 0 % 16 * 4
-- a wait: its units, its reach, its first row
def uc (E : Nat → Int32) : Nat → Nat
  | 0 => 0
  | k + 1 => uc E k + (if E (6000 + k) = 1 then 1 else 0)
def er (E : Nat → Int32) : Nat := (E 5).toNatClampNeg
def fq (E : Nat → Int32) : Nat → Nat := fun i => (E (100 + i)).toNatClampNeg % 256
abbrev thE (E : Nat → Int32) (i : Nat) : Prop := E (6000 + i / 8) = 1 ∧ i < er E
def eC (E a0 a2 a3 a4 : Nat → Int32) : Prop := (a0 5 = E 0 ∧ a0 6 = E 1 ∧ a0 7 = E 2 ∧ a0 8 = E 3 ∧ a0 9 = E 4 ∧ a0 11 = E 5 ∧ a0 12 = E 6 ∧ a0 3 = E 7 ∧ a0 10 = nI (uc E 500)) ∧ (E 7 = 1 → a0 4 = E 8 ∧ ∀ i, i < hl (fq E) + 8 → a2 i &&& 255 = E (100 + i)) ∧ (∀ i, i < 4000 → thE E i → a3 i &&& 255 = E (1000 + i)) ∧ ∀ i, i < 500 → a4 i = E (6000 + i)
def eM (E b0 b1 b2 b3 b4 b5 b6 b7 b8 b9 bA bB bC : Nat → Int32) (e : Nat) : Prop := (b0 e = E 0 ∧ b1 e = E 1 ∧ b2 e = E 2 <<< 8 ||| E 3 ∧ b3 e = E 4 ∧ b4 e = (if E 6 = 0 then -1 else E 5) ∧ b5 e = E 5) ∧ (E 7 = 0 → b6 e = 0) ∧ (E 7 = 1 → b6 e = nI (hl (fq E)) ∧ b9 e = 8 ∧ bA e = E 8 ∧ (∀ i, i < hl (fq E) → b7 (60 * e + i) = E (100 + i)) ∧ ∀ i, i < 8 → b8 (8 * e + i) = E (100 + (hl (fq E) + i))) ∧ (∀ i, i < 4000 → thE E i → bB (4000 * e + i) = E (1000 + i)) ∧ ∀ i, i < 4000 → bC (4000 * e + i) = if thE E i then 1 else 0
def eW (E : Nat → Int32) : Prop := (∃ x, x < 65536 ∧ E 2 = nI x) ∧ (∃ x, x < 256 ∧ E 3 = nI x) ∧ (∃ x, x ≤ 60000 ∧ E 4 = nI x) ∧ (E 5 = nI (er E) ∧ er E ≤ 4000) ∧ dz (E 6) ∧ dz (E 7) ∧ (∀ i, i < 500 → dz (E (6000 + i)) ∧ (E (6000 + i) = 1 → 8 * i < er E)) ∧ (E 6 = 0 → er E % 8 = 0) ∧ (E 6000 = 1 → E 7 = 1) ∧ (E 7 = 1 → (∃ p, p < 8 ∧ E 8 = nI p) ∧ 20 ≤ hl (fq E) ∧ hl (fq E) + 8 ≤ n2 (fq E) 2 ∧ ∀ i, i < hl (fq E) + 8 → E (100 + i) = nI (fq E i)) ∧ ∀ i, i < 4000 → ∃ b, b < 256 ∧ E (1000 + i) = nI b
def rcW (S : St9) (z : Nat → Nat → Int32) (w : Nat → Option Nat) : Prop := (∃ p : Nat → Nat, (∀ i, i < 4 → p i < 4 ∧ w i = some (30 + 5 * p i)) ∧ (∀ i j, i < 4 → j < 4 → p i = p j → i = j)) ∧
  ∀ e a, e < cn S 10 → e < 4 → w e = some a → eC (S (15 + e)) (z a) (z (a + 2)) (z (a + 3)) (z (a + 4))
def rmW (S : St9) (z : Nat → Nat → Int32) : Prop := ∀ e, e < cn S 10 → eM (S (15 + e)) (z 69) (z 70) (z 71) (z 72) (z 73) (z 74) (z 75) (z 76) (z 77) (z 78) (z 79) (z 80) (z 81) e ∧ eW (S (15 + e))
def wrows : List Nat := [16, 18, 20, 22, 27, 32, 33, 37, 38, 42, 43, 47, 48, 51]
def rc (S : St9) (z : Nat → Nat → Int32) (w : Nat → Option Nat) : Prop :=
  (∀ i, i < 8 → z (2 + i) 0 = S 0 i ∧ z (2 + i) 1 = S 1 i ∧ z (2 + i) 2 = S 2 i) ∧
  (z 10 4 = S 3 0 ∧ z 15 1 = S 3 1 ∧ z 21 6 = S 3 2 ∧ z 0 8 = S 3 3 ∧ z 0 9 = S 3 4 ∧ z 0 10 = S 3 5 ∧ z 50 1 = S 3 6 ∧ z 50 2 = S 3 7 ∧ z 50 3 = S 3 8 ∧ z 50 4 = S 3 9 ∧ z 28 1 = S 3 10 ∧ z 21 7 = S 3 11) ∧
  (∀ i, i < cn S 0 → z 11 i = S 4 i ∧ z 12 i = S 5 i ∧ z 13 i = S 6 i ∧ z 14 i = S 7 i) ∧
  (∀ i, i < cn S 1 → z 16 i &&& 255 = S 8 i) ∧
  (∀ i, i < cn S 2 → z 23 i = S 9 i ∧ z 24 i = S 10 i ∧ z 25 i = S 11 i ∧ z 26 i = S 12 i) ∧
  (∀ j, j < cn S 11 → z 22 j &&& 255 = S 13 j) ∧ (∀ j, j < cn S 9 → z 51 j &&& 255 = S 14 j) ∧
  (∀ r ∈ wrows, ∀ i, br (z r i)) ∧ rcW S z w
def rmd (S : St9) (z : Nat → Nat → Int32) : Prop :=
  (∀ i, i < 8 → z 53 i = S 0 i ∧ z 54 i = S 1 i ∧ z 55 i = if S 2 i = 0 then 1 else 0) ∧
  (z 52 7 = S 3 0 ∧ z 52 9 = S 3 1 ∧ z 52 19 = S 3 2 ∧ z 52 20 = S 3 3 ∧ z 52 21 = S 3 4 ∧ z 52 22 = S 3 5 ∧ z 52 23 = S 3 6 ∧ z 52 24 = S 3 7 ∧ z 52 25 = S 3 8 ∧ z 52 26 = S 3 9 ∧ z 52 28 = S 3 10) ∧
  (∀ i, i < cn S 0 → z 56 i = S 4 i ∧ z 57 i = S 5 i ∧ z 58 i = S 6 i ∧ z 59 i = S 7 i) ∧
  (∀ i, i < cn S 1 → z 60 i = S 8 i) ∧
  (∀ i, i < cn S 2 → z 64 i = S 9 i ∧ z 65 i = S 10 i ∧ z 66 i = S 11 i ∧ z 67 i = S 12 i) ∧
  (∀ j, j < cn S 11 → z 63 j = S 13 j) ∧ (∀ j, j < cn S 9 → z 68 j = S 14 j) ∧ rmW S z
def Jn (n : Nat) (h : hp_T) : Prop := n ≤ 512 ∧ ∃ (S : St9) (z : Nat → Nat → Int32) (w : Nat → Option Nat) (c s : Nat), h = hq z w c s ∧ wf n S ∧ rc S z w ∧ rmd S z ∧ c ≤ 82 + n ∧ s ≤ 120000 + 6 * n
theorem Jn_H (n : Nat) : lq_H (Jn n) := by
  intro h hj
  obtain ⟨hn, S, z, w, c, s, rfl, -, -, -, h1, h2⟩ := hj
  rw [hq_c, hq_s]
  omega
theorem Jn_k (n : Nat) (h : hp_T) (hj : Jn n h) : hp_k h 0 = some (7, 0) ∧ hp_k h 52 = some (8, 0) := by
  obtain ⟨hn, S, z, w, c, s, rfl, -, -, -, h1, h2⟩ := hj
  exact ⟨kq_0, kq_52⟩
-- the reference's part stays where only the class's cells change, and the other way about
theorem rmd_of {S : St9} {z z2 : Nat → Nat → Int32} (h : rmd S z) (hz : ∀ a, 52 ≤ a → z2 a = z a) : rmd S z2 := by
  unfold rmd rmW at h ⊢
  simp only [hz 52 (by omega), hz 53 (by omega), hz 54 (by omega), hz 55 (by omega), hz 56 (by omega), hz 57 (by omega), hz 58 (by omega), hz 59 (by omega), hz 60 (by omega), hz 63 (by omega), hz 64 (by omega), hz 65 (by omega), hz 66 (by omega), hz 67 (by omega), hz 68 (by omega), hz 69 (by omega), hz 70 (by omega), hz 71 (by omega), hz 72 (by omega), hz 73 (by omega), hz 74 (by omega), hz 75 (by omega), hz 76 (by omega), hz 77 (by omega), hz 78 (by omega), hz 79 (by omega), hz 80 (by omega), hz 81 (by omega)]
  exact h
theorem rc_of {S : St9} {z z2 : Nat → Nat → Int32} {w : Nat → Option Nat} (h : rc S z w) (hz : ∀ a, a < 52 → z2 a = z a) : rc S z2 w := by
  obtain ⟨h1, h2, h3, h4, h5, h6, h7, h8, ⟨p, hp, hi⟩, h9⟩ := h
  refine ⟨fun i hi => ?_, ?_, ?_, ?_, ?_, ?_, ?_, fun r hr i => ?_, ⟨p, hp, hi⟩, fun e a he h10 ha => ?_⟩
  · rw [hz (2 + i) (by omega)]; exact h1 i hi
  · simp only [hz 10 (by omega), hz 15 (by omega), hz 21 (by omega), hz 0 (by omega), hz 50 (by omega), hz 28 (by omega)]; exact h2
  · simp only [hz 11 (by omega), hz 12 (by omega), hz 13 (by omega), hz 14 (by omega)]; exact h3
  · simp only [hz 16 (by omega)]; exact h4
  · simp only [hz 23 (by omega), hz 24 (by omega), hz 25 (by omega), hz 26 (by omega)]; exact h5
  · simp only [hz 22 (by omega)]; exact h6
  · simp only [hz 51 (by omega)]; exact h7
  · have h0 : r < 52 := by
      simp only [wrows, List.mem_cons, List.not_mem_nil, or_false] at hr
      omega
    rw [hz r h0]; exact h8 r hr i
  · have h0 : ∃ j, j < 4 ∧ a = 30 + 5 * j := by
      have h11 := hp e h10
      rw [ha] at h11
      exact ⟨p e, h11.1, Option.some.inj h11.2⟩
    obtain ⟨j, hj, rfl⟩ := h0
    rw [hz (30 + 5 * j) (by omega), hz (30 + 5 * j + 2) (by omega), hz (30 + 5 * j + 3) (by omega), hz (30 + 5 * j + 4) (by omega)]
    exact h9 e _ he h10 ha
