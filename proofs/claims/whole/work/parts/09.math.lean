/-! the pure words: rows of works -/
def mdB (k : Nat) : Nat := if k = 1 then 2 else 1
def usB (k : Nat) : Nat := if k = 2 then 2 else 1
def sumM (k : Nat → Nat) : Nat → Nat | 0 => 0 | n + 1 => sumM k n + mdB (k n)
def sumU (k : Nat → Nat) : Nat → Nat | 0 => 0 | n + 1 => sumU k n + usB (k n)
def cnt (k : Nat → Nat) (x : Nat) : Nat → Nat | 0 => 0 | n + 1 => cnt k x n + if k n = x then 1 else 0
def yrn (y k : Nat → Nat) : Nat → Nat | 0 => 0 | n + 1 => yrn y k n + y (k n)
theorem mdB_le (k : Nat) : 1 ≤ mdB k ∧ mdB k ≤ 2 := by unfold mdB; split <;> omega
theorem usB_le (k : Nat) : 1 ≤ usB k ∧ usB k ≤ 2 := by unfold usB; split <;> omega
theorem sumM_ge (k : Nat → Nat) : ∀ n, n ≤ sumM k n | 0 => Nat.le_refl 0 | n + 1 => by have := sumM_ge k n; have := (mdB_le (k n)).1; simp only [sumM]; omega
theorem sumU_ge (k : Nat → Nat) : ∀ n, n ≤ sumU k n | 0 => Nat.le_refl 0 | n + 1 => by have := sumU_ge k n; have := (usB_le (k n)).1; simp only [sumU]; omega
theorem sumM_mono (k : Nat → Nat) {a b : Nat} (h : a ≤ b) : sumM k a ≤ sumM k b := by
  induction h with
  | refl => exact Nat.le_refl _
  | step _ ih => exact Nat.le_trans ih (by simp only [sumM]; omega)
theorem sumU_mono (k : Nat → Nat) {a b : Nat} (h : a ≤ b) : sumU k a ≤ sumU k b := by
  induction h with
  | refl => exact Nat.le_refl _
  | step _ ih => exact Nat.le_trans ih (by simp only [sumU]; omega)
theorem sumM_lt (k : Nat → Nat) {a b : Nat} (h : a < b) : sumM k a < sumM k b := by
  have h1 := sumM_mono k (show a + 1 ≤ b from h)
  have h2 := (mdB_le (k a)).1
  simp only [sumM] at h1; omega
theorem sumU_lt (k : Nat → Nat) {a b : Nat} (h : a < b) : sumU k a < sumU k b := by
  have h1 := sumU_mono k (show a + 1 ≤ b from h)
  have h2 := (usB_le (k a)).1
  simp only [sumU] at h1; omega
theorem sumM_le2 (k : Nat → Nat) : ∀ n, sumM k n ≤ 2 * n | 0 => Nat.le_refl 0 | n + 1 => by have := sumM_le2 k n; have := (mdB_le (k n)).2; simp only [sumM]; omega
theorem sumU_le2 (k : Nat → Nat) : ∀ n, sumU k n ≤ 2 * n | 0 => Nat.le_refl 0 | n + 1 => by have := sumU_le2 k n; have := (usB_le (k n)).2; simp only [sumU]; omega
theorem cnt_le (k : Nat → Nat) (x : Nat) : ∀ n, cnt k x n ≤ n | 0 => Nat.le_refl 0 | n + 1 => by have := cnt_le k x n; simp only [cnt]; split <;> omega
theorem sumM_ext {k k' : Nat → Nat} : ∀ {n : Nat}, (∀ i, i < n → k i = k' i) → sumM k n = sumM k' n
  | 0, _ => rfl
  | n + 1, h => by simp only [sumM]; rw [sumM_ext (fun i hi => h i (Nat.lt_succ_of_lt hi)), h n (Nat.lt_succ_self n)]
theorem sumU_ext {k k' : Nat → Nat} : ∀ {n : Nat}, (∀ i, i < n → k i = k' i) → sumU k n = sumU k' n
  | 0, _ => rfl
  | n + 1, h => by simp only [sumU]; rw [sumU_ext (fun i hi => h i (Nat.lt_succ_of_lt hi)), h n (Nat.lt_succ_self n)]
/-- the work that made stitch s: work i -/
def isMk (k : Nat → Nat) (s i : Nat) : Prop := sumM k i ≤ s ∧ s < sumM k (i + 1)
theorem isMk_u {k : Nat → Nat} {s i j : Nat} (h : isMk k s i) (h2 : isMk k s j) : i = j := by
  rcases Nat.lt_trichotomy i j with q | q | q
  · have := sumM_mono k (show i + 1 ≤ j from q); unfold isMk at h h2; omega
  · exact q
  · have := sumM_mono k (show j + 1 ≤ i from q); unfold isMk at h h2; omega
/-- the work that uses stitch s -/
def isUs (k : Nat → Nat) (s i : Nat) : Prop := sumU k i ≤ s ∧ s < sumU k (i + 1)
theorem isUs_u {k : Nat → Nat} {s i j : Nat} (h : isUs k s i) (h2 : isUs k s j) : i = j := by
  rcases Nat.lt_trichotomy i j with q | q | q
  · have := sumU_mono k (show i + 1 ≤ j from q); unfold isUs at h h2; omega
  · exact q
  · have := sumU_mono k (show j + 1 ≤ i from q); unfold isUs at h h2; omega
/-- a piece: rounds, spiral, kinds, works, yarn -/
def PVd (R : Nat) (K : Nat → Nat → Nat) (w y : Nat → Nat) : Prop :=
  (1 ≤ R ∧ R ≤ 40) ∧ (∀ r, r < R → (1 ≤ w r ∧ w r ≤ 120) ∧ (3 ≤ sumM (K r) (w r) ∧ sumM (K r) (w r) ≤ 120) ∧ ∀ i, i < w r → K r i ≤ 2) ∧ (∀ r, r + 1 < R → sumU (K (r + 1)) (w (r + 1)) = sumM (K r) (w r)) ∧ (∀ k, k < 3 → 1 ≤ y k ∧ y k ≤ 60) ∧ (w 0 ≤ 12 ∧ ∀ i, i < w 0 → K 0 i = 0)
/-! rounds that reach a goal -/
def pm (n t : Nat) : Nat := if n ≤ t then n else t
def pd (n t : Nat) : Nat := if n ≤ t then t - n else n - t
def pk (n t : Nat) : Nat := if n ≤ t then 1 else 2
def isPo (n t : Nat) : Prop := if n ≤ t then t - n ≤ n else 2 * (n - t) ≤ n
def spk (k d m i : Nat) : Nat := if i * d / m < (i + 1) * d / m then k else 0
def mik (k d m i : Nat) : Nat := if (if i < m / 2 then i else m - 1 - i) < m / 2 then spk k (d / 2) (m / 2) (if i < m / 2 then i else m - 1 - i) else if d % 2 = 1 then k else 0
theorem spk_le {k d m i : Nat} (h : k ≤ 2) : spk k d m i ≤ 2 := by unfold spk; split <;> omega
theorem mik_le {k d m i : Nat} (h : k ≤ 2) : mik k d m i ≤ 2 := by
  unfold mik
  by_cases c : (if i < m / 2 then i else m - 1 - i) < m / 2
  · rw [if_pos c]; exact spk_le h
  · rw [if_neg c]; by_cases c2 : d % 2 = 1
    · rw [if_pos c2]; exact h
    · rw [if_neg c2]; omega
theorem pkx_le (n t : Nat) : 1 ≤ pk n t ∧ pk n t ≤ 2 := by unfold pk; split <;> omega
/-! stacked works -/
def nstk (mk row : Nat → Nat) : Nat → Nat | 0 => 0 | n + 1 => nstk mk row n + if (row n ≠ 0 ∧ (mk (sumU row n) = row n ∨ (row n = 2 ∧ mk (sumU row n + 1) = 2))) then 1 else 0
theorem nstk_le (mk row : Nat → Nat) : ∀ n, nstk mk row n ≤ n | 0 => Nat.le_refl 0 | n + 1 => by have := nstk_le mk row n; simp only [nstk]; split <;> omega
theorem nstk_ext {mk mk' row row' : Nat → Nat} : ∀ {n : Nat}, (∀ i, i < n → row i = row' i) → (∀ x, x < sumU row n → mk x = mk' x) → nstk mk row n = nstk mk' row' n
  | 0, _, _ => rfl
  | n + 1, h, h2 => by
    have e : sumU row n = sumU row' n := sumU_ext (fun i hi => h i (Nat.lt_succ_of_lt hi))
    have en := h n (Nat.lt_succ_self n)
    have ih := nstk_ext (n := n) (fun i hi => h i (Nat.lt_succ_of_lt hi)) (fun x hx => h2 x (by simp only [sumU]; omega))
    have u1 := (usB_le (row n)).1
    have m1 : mk (sumU row n) = mk' (sumU row n) := h2 _ (by simp only [sumU]; omega)
    have m2 : row n = 2 → mk (sumU row n + 1) = mk' (sumU row n + 1) := fun q => h2 _ (by simp only [sumU, usB]; rw [if_pos q]; omega)
    simp only [nstk]
    rw [ih, ← e, ← en, m1]
    by_cases q : row n = 2
    · rw [m2 q]
    · simp [q]
/-- f tells the kind of work that made each stitch of a row -/
def mkOk (f k : Nat → Nat) (m : Nat) : Prop := ∀ i, i < m → ∀ x, sumM k i ≤ x → x < sumM k (i + 1) → f x = k i
theorem mk_ex {k : Nat → Nat} : ∀ {m x : Nat}, x < sumM k m → ∃ i, i < m ∧ isMk k x i
  | 0, x, h => absurd h (Nat.not_lt_zero _)
  | m + 1, x, h => by
    rcases Nat.lt_or_ge x (sumM k m) with q | q
    · obtain ⟨i, h1, h2⟩ := mk_ex q
      exact ⟨i, Nat.lt_succ_of_lt h1, h2⟩
    · exact ⟨m, Nat.lt_succ_self m, q, h⟩
theorem us_ex {k : Nat → Nat} : ∀ {m x : Nat}, x < sumU k m → ∃ i, i < m ∧ isUs k x i
  | 0, x, h => absurd h (Nat.not_lt_zero _)
  | m + 1, x, h => by
    rcases Nat.lt_or_ge x (sumU k m) with q | q
    · obtain ⟨i, h1, h2⟩ := us_ex q
      exact ⟨i, Nat.lt_succ_of_lt h1, h2⟩
    · exact ⟨m, Nat.lt_succ_self m, q, h⟩
theorem mkOk_u {f g k : Nat → Nat} {m : Nat} (h : mkOk f k m) (h2 : mkOk g k m) : ∀ x, x < sumM k m → f x = g x := fun x hx => by
  obtain ⟨i, h3, h4⟩ := mk_ex hx
  rw [h i h3 x h4.1 h4.2, h2 i h3 x h4.1 h4.2]
/-- the best shift: the least of those with the fewest -/
def isBst (c : Nat → Nat) (m b : Nat) : Prop := b < m ∧ (∀ x, x < m → c b ≤ c x) ∧ ∀ x, x < b → c b < c x
theorem isBst_u {c : Nat → Nat} {m a b : Nat} (h : isBst c m a) (h2 : isBst c m b) : a = b := by
  rcases Nat.lt_trichotomy a b with q | q | q
  · have := h2.2.2 a q; have := h.2.1 b h2.1; omega
  · exact q
  · have := h.2.2 b q; have := h2.2.1 a h.1; omega
