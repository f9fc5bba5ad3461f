/-! the pure words: rows of works -/
def mdB (k : Nat) : Nat := if k = 1 then 2 else 1
def usB (k : Nat) : Nat := if k = 2 then 2 else 1
def sumM (k : Nat → Nat) : Nat → Nat | 0 => 0 | n + 1 => sumM k n + mdB (k n)
def sumU (k : Nat → Nat) : Nat → Nat | 0 => 0 | n + 1 => sumU k n + usB (k n)
def cnt (k : Nat → Nat) (x : Nat) : Nat → Nat | 0 => 0 | n + 1 => cnt k x n + if k n = x then 1 else 0
def yrn (y k : Nat → Nat) : Nat → Nat | 0 => 0 | n + 1 => yrn y k n + y (k n)
theorem mdB_le (k : Nat) : 1 ≤ mdB k ∧ mdB k ≤ 2 := by unfold mdB; split <;> omega
theorem usB_le (k : Nat) : 1 ≤ usB k ∧ usB k ≤ 2 := by unfold usB; split <;> omega
theorem sumM_ge (k : Nat → Nat) : ∀ n, n ≤ sumM k n | 0 => Nat.le_refl 0 | n + 1 => by have := sumM_ge k n; have := (mdB_le (k n)).1; simp only [sumM]; omega
theorem sumU_ge (k : Nat → Nat) : ∀ n, n ≤ sumU k n | 0 => Nat.le_refl 0 | n + 1 => by have := sumU_ge k n; have := (usB_le (k n)).1; simp only [sumU]; omega
theorem sumM_mono (k : Nat → Nat) {a b : Nat} (h : a ≤ b) : sumM k a ≤ sumM k b := by
  induction h with
  | refl => exact Nat.le_refl _
  | step _ ih => exact Nat.le_trans ih (by simp only [sumM]; omega)
theorem sumU_mono (k : Nat → Nat) {a b : Nat} (h : a ≤ b) : sumU k a ≤ sumU k b := by
  induction h with
  | refl => exact Nat.le_refl _
  | step _ ih => exact Nat.le_trans ih (by simp only [sumU]; omega)
theorem sumM_lt (k : Nat → Nat) {a b : Nat} (h : a < b) : sumM k a < sumM k b := by
  have h1 := sumM_mono k (show a + 1 ≤ b from h)
  have h2 := (mdB_le (k a)).1
  simp only [sumM] at h1; omega
theorem sumU_lt (k : Nat → Nat) {a b : Nat} (h : a < b) : sumU k a < sumU k b := by
  have h1 := sumU_mono k (show a + 1 ≤ b from h)
  have h2 := (usB_le (k a)).1
  simp only [sumU] at h1; omega
theorem sumM_le2 (k : Nat → Nat) : ∀ n, sumM k n ≤ 2 * n | 0 => Nat.le_refl 0 | n + 1 => by have := sumM_le2 k n; have := (mdB_le (k n)).2; simp only [sumM]; omega
theorem sumU_le2 (k : Nat → Nat) : ∀ n, sumU k n ≤ 2 * n | 0 => Nat.le_refl 0 | n + 1 => by have := sumU_le2 k n; have := (usB_le (k n)).2; simp only [sumU]; omega
theorem cnt_le (k : Nat → Nat) (x : Nat) : ∀ n, cnt k x n ≤ n | 0 => Nat.le_refl 0 | n + 1 => by have := cnt_le k x n; simp only [cnt]; split <;> omega
theorem sumM_ext {k k' : Nat → Nat} : ∀ {n : Nat}, (∀ i, i < n → k i = k' i) → sumM k n = sumM k' n
  | 0, _ => rfl
  | n + 1, h => by simp only [sumM]; rw [sumM_ext (fun i hi => h i (Nat.lt_succ_of_lt hi)), h n (Nat.lt_succ_self n)]
theorem sumU_ext {k k' : Nat → Nat} : ∀ {n : Nat}, (∀ i, i < n → k i = k' i) → sumU k n = sumU k' n
  | 0, _ => rfl
  | n + 1, h => by simp only [sumU]; rw [sumU_ext (fun i hi => h i (Nat.lt_succ_of_lt hi)), h n (Nat.lt_succ_self n)]
/-- the work that made stitch s: work i -/
def isMk (k : Nat → Nat) (s i : Nat) : Prop := sumM k i ≤ s ∧ s < sumM k (i + 1)
theorem isMk_u {k : Nat → Nat} {s i j : Nat} (h : isMk k s i) (h2 : isMk k s j) : i = j := by
  rcases Nat.lt_trichotomy i j with q | q | q
  · have := sumM_mono k (show i + 1 ≤ j from q); unfold isMk at h h2; omega
  · exact q
  · have := sumM_mono k (show j + 1 ≤ i from q); unfold isMk at h h2; omega
/-- the work that uses stitch s -/
def isUs (k : Nat → Nat) (s i : Nat) : Prop := sumU k i ≤ s ∧ s < sumU k (i + 1)
theorem isUs_u {k : Nat → Nat} {s i j : Nat} (h : isUs k s i) (h2 : isUs k s j) : i = j := by
  rcases Nat.lt_trichotomy i j with q | q | q
  · have := sumU_mono k (show i + 1 ≤ j from q); unfold isUs at h h2; omega
  · exact q
  · have := sumU_mono k (show j + 1 ≤ i from q); unfold isUs at h h2; omega
/-- a piece: rounds, spiral, kinds, works, yarn -/
def PVd (R : Nat) (K : Nat → Nat → Nat) (w y : Nat → Nat) : Prop :=
  (1 ≤ R ∧ R ≤ 40) ∧ (∀ r, r < R → (1 ≤ w r ∧ w r ≤ 120) ∧ (3 ≤ sumM (K r) (w r) ∧ sumM (K r) (w r) ≤ 120) ∧ ∀ i, i < w r → K r i ≤ 2) ∧ (∀ r, r + 1 < R → sumU (K (r + 1)) (w (r + 1)) = sumM (K r) (w r)) ∧ (∀ k, k < 3 → 1 ≤ y k ∧ y k ≤ 60) ∧ (w 0 ≤ 12 ∧ ∀ i, i < w 0 → K 0 i = 0)
