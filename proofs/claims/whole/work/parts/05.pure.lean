/-! pure words: line ends counted, the digest, a row with numbers put in, a row with numbers taken out -/
def lc_cnt (g : Nat → Int32) : Nat → Nat
  | 0 => 0
  | k + 1 => lc_cnt g k + (if g k = 10 then 1 else 0)
def lc_dig (g : Nat → Int32) : Nat → Int32
  | 0 => 0
  | k + 1 => lc_dig g k + g k * nI (k + 1)
def lc_ins (g : Nat → Int32) (i : Nat) (v st : Int32) (k : Nat) : Nat → Int32 := fun j => if j < i then g j else if j < i + k then v + nI (j - i) * st else g (j - k)
def lc_del (g : Nat → Int32) (i k : Nat) : Nat → Int32 := fun j => if j < i then g j else g (j + k)
theorem lc_cnt_s (g : Nat → Int32) (k : Nat) : lc_cnt g (k + 1) = lc_cnt g k + (if g k = 10 then 1 else 0) := rfl
theorem lc_cnt_t {g : Nat → Int32} {k : Nat} (h : g k = 10) : lc_cnt g (k + 1) = lc_cnt g k + 1 := by rw [lc_cnt_s, if_pos h]
theorem lc_cnt_f {g : Nat → Int32} {k : Nat} (h : ¬ g k = 10) : lc_cnt g (k + 1) = lc_cnt g k := by rw [lc_cnt_s, if_neg h]; rfl
theorem lc_cnt_congr {g h : Nat → Int32} : ∀ {n : Nat}, (∀ j, j < n → g j = h j) → lc_cnt g n = lc_cnt h n
  | 0, _ => rfl
  | n + 1, e => by rw [lc_cnt_s, lc_cnt_s, lc_cnt_congr (n := n) (fun j hj => e j (by omega)), e n (by omega)]
theorem lc_cnt_le (g : Nat → Int32) : ∀ n, lc_cnt g n ≤ n
  | 0 => Nat.le_refl _
  | n + 1 => by
    rw [lc_cnt_s]
    have := lc_cnt_le g n
    split <;> omega
theorem lc_cnt_mono (g : Nat → Int32) (a : Nat) : ∀ m, lc_cnt g a ≤ lc_cnt g (a + m)
  | 0 => Nat.le_refl _
  | m + 1 => by
    have := lc_cnt_mono g a m
    rw [← Nat.add_assoc, lc_cnt_s]
    omega
theorem lc_cnt_mono' (g : Nat → Int32) {a b : Nat} (h : a ≤ b) : lc_cnt g a ≤ lc_cnt g b := by
  have := lc_cnt_mono g a (b - a)
  rwa [Nat.add_sub_cancel' h] at this
theorem lc_cnt_shift {g h : Nat → Int32} {a b : Nat} : ∀ {m : Nat}, (∀ j, j < m → g (a + j) = h (b + j)) → lc_cnt g (a + m) + lc_cnt h b = lc_cnt h (b + m) + lc_cnt g a
  | 0, _ => by simp only [Nat.add_zero]; omega
  | m + 1, e => by
    have ih := lc_cnt_shift (m := m) (fun j hj => e j (by omega))
    rw [← Nat.add_assoc, ← Nat.add_assoc, lc_cnt_s, lc_cnt_s, e m (by omega)]
    omega
theorem lc_dig_congr {g h : Nat → Int32} : ∀ {n : Nat}, (∀ j, j < n → g j = h j) → lc_dig g n = lc_dig h n
  | 0, _ => rfl
  | n + 1, e => by show lc_dig g n + g n * nI (n + 1) = lc_dig h n + h n * nI (n + 1); rw [lc_dig_congr (n := n) (fun j hj => e j (by omega)), e n (by omega)]
theorem lc_ins_congr {g h : Nat → Int32} {n i k : Nat} {v st : Int32} (e : ∀ j, j < n → g j = h j) (hi : i ≤ n) : ∀ j, j < n + k → lc_ins g i v st k j = lc_ins h i v st k j := by
  intro j hj
  unfold lc_ins
  split
  · exact e j (by omega)
  · split
    · rfl
    · exact e (j - k) (by omega)
theorem lc_del_congr {g h : Nat → Int32} {n i k : Nat} (e : ∀ j, j < n → g j = h j) (hk : i + k ≤ n) : ∀ j, j < n - k → lc_del g i k j = lc_del h i k j := by
  intro j hj
  unfold lc_del
  split
  · exact e j (by omega)
  · exact e (j + k) (by omega)
/-- the line ends behind an insert -/
theorem lc_ins_cnt {g u : Nat → Int32} {n i k : Nat} {v st : Int32} (hi : i ≤ n) (e : ∀ j, j < n + k → u j = lc_ins g i v st k j) : lc_cnt u (n + k) = lc_cnt g n + (lc_cnt u (i + k) - lc_cnt u i) := by
  have h1 : lc_cnt u i = lc_cnt g i := lc_cnt_congr fun j hj => by rw [e j (by omega)]; unfold lc_ins; rw [if_pos hj]
  have h2 := lc_cnt_shift (g := u) (h := g) (a := i + k) (b := i) (m := n - i) (fun j hj => by
    rw [e _ (by omega)]; unfold lc_ins; rw [if_neg (by omega), if_neg (by omega)]; congr 1; omega)
  have h3 := lc_cnt_mono' u (show i ≤ i + k by omega)
  rw [show i + k + (n - i) = n + k by omega, show i + (n - i) = n by omega] at h2
  omega
/-- the line ends behind a delete -/
theorem lc_del_cnt {g u : Nat → Int32} {n i k : Nat} (hk : i + k ≤ n) (e : ∀ j, j < n - k → u j = lc_del g i k j) : lc_cnt u (n - k) + (lc_cnt g (i + k) - lc_cnt g i) = lc_cnt g n := by
  have h1 : lc_cnt u i = lc_cnt g i := lc_cnt_congr fun j hj => by rw [e j (by omega)]; unfold lc_del; rw [if_pos hj]
  have h2 := lc_cnt_shift (g := u) (h := g) (a := i) (b := i + k) (m := n - k - i) (fun j hj => by
    rw [e _ (by omega)]; unfold lc_del; rw [if_neg (by omega)]; congr 1; omega)
  have h3 := lc_cnt_mono' g (show i ≤ i + k by omega)
  rw [show i + (n - k - i) = n - k by omega, show i + k + (n - k - i) = n by omega] at h2
  omega
/-- the place behind n line ends -/
def lc_isL (g : Nat → Int32) (n k : Nat) : Prop := n ≤ lc_cnt g k ∧ ∀ j, j < k → lc_cnt g j < n
theorem lc_isL_eq {g : Nat → Int32} {n a b : Nat} (h1 : lc_isL g n a) (h2 : lc_isL g n b) : a = b := by
  rcases Nat.lt_trichotomy a b with h | h | h
  · have := h2.2 a h; have := h1.1; omega
  · exact h
  · have := h1.2 b h; have := h2.1; omega
theorem lc_isL_congr {g h : Nat → Int32} {n m k : Nat} (e : ∀ j, j < m → g j = h j) (hk : k ≤ m) (hl : lc_isL g n k) : lc_isL h n k := by
  refine ⟨?_, fun j hj => ?_⟩
  · rw [← lc_cnt_congr (g := g) (h := h) (fun j hj => e j (by omega))]; exact hl.1
  · rw [← lc_cnt_congr (g := g) (h := h) (fun i hi => e i (by omega))]; exact hl.2 j hj
theorem lc_step (st : Int32) (j : Nat) : nI (j + 1) * st = nI j * st + st := by rw [nI_succ, Int32.add_mul, Int32.one_mul]
theorem lc_move {c a b : Nat} (h : a ≤ c + b) : nI c + (nI b - nI a) = nI (c + b - a) := by
  rw [Int32.sub_eq_add_neg, ← Int32.add_assoc, ← Int32.sub_eq_add_neg, nI_add, pk_sub h]
theorem lc_min {a b : Nat} (ha : a < 2 ^ 31) (hb : b < 2 ^ 31) : (if nI b < nI a then nI b else nI a) = nI (min a b) := by
  by_cases h : b < a
  · rw [if_pos (nI_lt h ha), Nat.min_eq_right (by omega)]
  · rw [if_neg (nI_nlt (by omega) hb), Nat.min_eq_left (by omega)]
theorem lc_max {a b : Nat} (h : a ≤ b) (hb : b < 2 ^ 31) : (if nI a < nI b then nI b else nI a) = nI b := by
  by_cases h2 : a < b
  · rw [if_pos (nI_lt h2 hb)]
  · have : a = b := by omega
    subst this
    rw [if_neg (nI_nlt (Nat.le_refl _) hb)]
/-- the room of a row behind a growth, and what the growth makes -/
def lc_L (L m : Nat) : Nat := if m ≤ L then L else min (2 * L) 20000
def lc_gr (L m : Nat) : Nat := if m ≤ L then 0 else min (2 * L) 20000
theorem lc_L_ge {L m : Nat} (h5 : 512 ≤ L) (hm : m ≤ 20000) (hm5 : m ≤ L + 500) : m ≤ lc_L L m ∧ L ≤ lc_L L m ∨ m ≤ lc_L L m ∧ 20000 < L := by
  unfold lc_L
  split <;> omega
theorem lc_L_in {L m : Nat} (h5 : 512 ≤ L) (hL : L ≤ 20000) (hm : m ≤ 20000) (hm5 : m ≤ L + 500) : m ≤ lc_L L m ∧ L ≤ lc_L L m ∧ lc_L L m ≤ 20000 := by
  unfold lc_L
  split <;> omega
theorem lc_pred_lt {i : Nat} (h : i < 2 ^ 31) : nI (i + 0) - 1 < nI i := by
  cases i with
  | zero => decide
  | succ j => rw [Nat.add_zero, nI_pred]; exact nI_lt (Nat.lt_succ_self j) h
theorem lc_dec (x : Int32) : x + Int32.ofInt (-1) = x - 1 := by rw [Int32.sub_eq_add_neg]; rfl
theorem lc_okG {x : Int32} {n : Nat} (h : ¬ (x < 0 ∨ nI n ≤ x)) (hn : n < 2 ^ 31) : ∃ i : Nat, i < n ∧ x = nI i := by
  rcases pk_ix x hn with h1 | h1 | h1
  · exact absurd (Or.inl h1) h
  · exact absurd (Or.inr h1) h
  · exact h1
theorem lc_okL {x : Int32} {n : Nat} (h : ¬ (x < 0 ∨ nI n < x)) (hn : n < 2 ^ 31) : ∃ i : Nat, i ≤ n ∧ x = nI i :=
  nI_of2 (nI_toInt hn) (fun h1 => h (Or.inl h1)) (Int32.not_lt.mp (fun h1 => h (Or.inr h1)))
theorem lc_isL_ex {g : Nat → Int32} {n c : Nat} (h : n ≤ lc_cnt g c) : ∃ j, j ≤ c ∧ lc_isL g n j := by
  obtain ⟨j, h1, h2⟩ := pk_least (fun j => n ≤ lc_cnt g j) ⟨c, h⟩
  refine ⟨j, Nat.not_lt.mp (fun hlt => h2 c hlt h), h1, fun i hi => Nat.not_le.mp (h2 i hi)⟩
theorem lc_okI {x y : Int32} {n : Nat} (h : ¬ (x < 0 ∨ nI n < x ∨ y < 1 ∨ 500 < y)) (hn : n < 2 ^ 31) : ∃ i k : Nat, x = nI i ∧ y = nI k ∧ i ≤ n ∧ 1 ≤ k ∧ k ≤ 500 := by
  obtain ⟨i, hi, rfl⟩ := lc_okL (x := x) (n := n) (fun z => h (z.elim Or.inl (fun z => Or.inr (Or.inl z)))) hn
  have hy1 : ¬ y < 1 := fun z => h (Or.inr (Or.inr (Or.inl z)))
  have hy5 : ¬ 500 < y := fun z => h (Or.inr (Or.inr (Or.inr z)))
  have hy0 : ¬ y < 0 := fun z => hy1 (Int32.lt_of_lt_of_le z (by decide))
  obtain ⟨k, hk, rfl⟩ := nI_of2 (x := y) (M := 500) (n := 500) (by decide) hy0 (Int32.not_lt.mp hy5)
  refine ⟨i, k, rfl, rfl, hi, ?_, hk⟩
  rcases Nat.eq_zero_or_pos k with rfl | hk1
  · exact absurd (show nI 0 < 1 by decide) hy1
  · exact hk1
theorem lc_sub_neg {n : Nat} {y : Int32} (hn : n ≤ 20000) (h : nI n < y) : nI n - y < 0 := by
  have h1 : (nI n).toInt = n := nI_toInt (by omega)
  have h2 := Int32.lt_iff_toInt_lt.mp h
  have h3 := Int32.toInt_lt y
  rw [Int32.lt_iff_toInt_lt, Int32.toInt_sub, Int32.toInt_zero, h1]
  rw [h1] at h2
  rw [Int.bmod_eq_of_le (by omega) (by omega)]
  omega
theorem lc_badD {x y : Int32} {n : Nat} (h : x < 0 ∨ y < 1 ∨ nI n < y ∨ nI n - y < x) (hn : n ≤ 20000) : x < 0 ∨ y < 1 ∨ nI n - y < x := by
  rcases h with h | h | h | h
  · exact Or.inl h
  · exact Or.inr (Or.inl h)
  · by_cases h0 : x < 0
    · exact Or.inl h0
    · exact Or.inr (Or.inr (Int32.lt_of_lt_of_le (lc_sub_neg hn h) (Int32.not_lt.mp h0)))
  · exact Or.inr (Or.inr h)
theorem lc_okD {x y : Int32} {n : Nat} (h : ¬ (x < 0 ∨ y < 1 ∨ nI n < y ∨ nI n - y < x)) (hn : n ≤ 20000) : ∃ i k : Nat, x = nI i ∧ y = nI k ∧ 1 ≤ k ∧ i + k ≤ n := by
  have hy1 : ¬ y < 1 := fun z => h (Or.inr (Or.inl z))
  have hy0 : ¬ y < 0 := fun z => hy1 (Int32.lt_of_lt_of_le z (by decide))
  obtain ⟨k, hk, rfl⟩ := nI_of2 (x := y) (M := nI n) (n := n) (nI_toInt (by omega)) hy0 (Int32.not_lt.mp (fun z => h (Or.inr (Or.inr (Or.inl z)))))
  have hx : ¬ nI (n - k) < x := fun z => h (Or.inr (Or.inr (Or.inr (by rw [pk_sub hk]; exact z))))
  obtain ⟨i, hi, rfl⟩ := lc_okL (x := x) (n := n - k) (fun z => z.elim (fun z => h (Or.inl z)) hx) (by omega)
  refine ⟨i, k, rfl, rfl, ?_, by omega⟩
  rcases Nat.eq_zero_or_pos k with rfl | hk1
  · exact absurd (show nI 0 < 1 by decide) hy1
  · exact hk1
theorem lc_pot {L m pt : Nat} (hL : L ≤ 20000) (hm : m ≤ 20000) (h : (L = 20000 ∧ pt ≤ 60000) ∨ (L < 20000 ∧ pt ≤ 2 * L)) : (lc_L L m = 20000 ∧ pt + lc_gr L m ≤ 60000) ∨ (lc_L L m < 20000 ∧ pt + lc_gr L m ≤ 2 * lc_L L m) := by
  unfold lc_L lc_gr
  split <;> omega
theorem lc_pot_le {L m pt : Nat} (h : (L = 20000 ∧ pt ≤ 60000) ∨ (L < 20000 ∧ pt ≤ 2 * L)) (hL : L ≤ 20000) : pt + lc_gr L m ≤ 80000 := by
  unfold lc_gr
  split <;> omega
theorem lc_cmp (x : Int64) : lg_cmp x x = 0 := (lg_cmp_eq x x).mpr rfl
theorem lc_i5 {L : Nat} (hL : L < 2 ^ 31) : (nI L - 5).toInt = (L : Int) - 5 := by
  rw [Int32.toInt_sub, nI_toInt hL, show (5 : Int32).toInt = 5 by decide, Int.bmod_eq_of_le (by omega) (by omega)]
theorem lc_exit {L i : Nat} (h : L < i + 5) (hi : i ≤ L) (hL : L < 2 ^ 31) : nI L - 5 < nI i := by
  rw [Int32.lt_iff_toInt_lt, lc_i5 hL, nI_toInt (by omega)]; omega
theorem lc_noexit {L i : Nat} (h : i + 5 ≤ L) (hL : L < 2 ^ 31) : ¬ nI L - 5 < nI i := by
  rw [Int32.lt_iff_toInt_lt, lc_i5 hL, nI_toInt (by omega)]; omega
