/-! the pure words: rows of works -/
def mdB (k : Nat) : Nat := if k = 1 then 2 else 1
def usB (k : Nat) : Nat := if k = 2 then 2 else 1
def sumM (k : Nat → Nat) : Nat → Nat | 0 => 0 | n + 1 => sumM k n + mdB (k n)
def sumU (k : Nat → Nat) : Nat → Nat | 0 => 0 | n + 1 => sumU k n + usB (k n)
def cnt (k : Nat → Nat) (x : Nat) : Nat → Nat | 0 => 0 | n + 1 => cnt k x n + if k n = x then 1 else 0
def yrn (y k : Nat → Nat) : Nat → Nat | 0 => 0 | n + 1 => yrn y k n + y (k n)
theorem mdB_le (k : Nat) : 1 ≤ mdB k ∧ mdB k ≤ 2 := by unfold mdB; split <;> omega
theorem usB_le (k : Nat) : 1 ≤ usB k ∧ usB k ≤ 2 := by unfold usB; split <;> omega
theorem sumM_ge (k : Nat → Nat) : ∀ n, n ≤ sumM k n | 0 => Nat.le_refl 0 | n + 1 => by have := sumM_ge k n; have := (mdB_le (k n)).1; simp only [sumM]; omega
theorem sumU_ge (k : Nat → Nat) : ∀ n, n ≤ sumU k n | 0 => Nat.le_refl 0 | n + 1 => by have := sumU_ge k n; have := (usB_le (k n)).1; simp only [sumU]; omega
theorem sumM_mono (k : Nat → Nat) {a b : Nat} (h : a ≤ b) : sumM k a ≤ sumM k b := by
  induction h with
  | refl => exact Nat.le_refl _
  | step _ ih => exact Nat.le_trans ih (by simp only [sumM]; omega)
theorem sumU_mono (k : Nat → Nat) {a b : Nat} (h : a ≤ b) : sumU k a ≤ sumU k b := by
  induction h with
  | refl => exact Nat.le_refl _
  | step _ ih => exact Nat.le_trans ih (by simp only [sumU]; omega)
theorem sumM_lt (k : Nat → Nat) {a b : Nat} (h : a < b) : sumM k a < sumM k b := by
  have h1 := sumM_mono k (show a + 1 ≤ b from h)
  have h2 := (mdB_le (k a)).1
  simp only [sumM] at h1; omega
theorem sumU_lt (k : Nat → Nat) {a b : Nat} (h : a < b) : sumU k a < sumU k b := by
  have h1 := sumU_mono k (show a + 1 ≤ b from h)
  have h2 := (usB_le (k a)).1
  simp only [sumU] at h1; omega
theorem sumM_le2 (k : Nat → Nat) : ∀ n, sumM k n ≤ 2 * n | 0 => Nat.le_refl 0 | n + 1 => by have := sumM_le2 k n; have := (mdB_le (k n)).2; simp only [sumM]; omega
theorem sumU_le2 (k : Nat → Nat) : ∀ n, sumU k n ≤ 2 * n | 0 => Nat.le_refl 0 | n + 1 => by have := sumU_le2 k n; have := (usB_le (k n)).2; simp only [sumU]; omega
theorem cnt_le (k : Nat → Nat) (x : Nat) : ∀ n, cnt k x n ≤ n | 0 => Nat.le_refl 0 | n + 1 => by have := cnt_le k x n; simp only [cnt]; split <;> omega
theorem sumM_ext {k k' : Nat → Nat} : ∀ {n : Nat}, (∀ i, i < n → k i = k' i) → sumM k n = sumM k' n
  | 0, _ => rfl
  | n + 1, h => by simp only [sumM]; rw [sumM_ext (fun i hi => h i (Nat.lt_succ_of_lt hi)), h n (Nat.lt_succ_self n)]
theorem sumU_ext {k k' : Nat → Nat} : ∀ {n : Nat}, (∀ i, i < n → k i = k' i) → sumU k n = sumU k' n
  | 0, _ => rfl
  | n + 1, h => by simp only [sumU]; rw [sumU_ext (fun i hi => h i (Nat.lt_succ_of_lt hi)), h n (Nat.lt_succ_self n)]
/-- the work that made stitch s: work i -/
def isMk (k : Nat → Nat) (s i : Nat) : Prop := sumM k i ≤ s ∧ s < sumM k (i + 1)
theorem isMk_u {k : Nat → Nat} {s i j : Nat} (h : isMk k s i) (h2 : isMk k s j) : i = j := by
  rcases Nat.lt_trichotomy i j with q | q | q
  · have := sumM_mono k (show i + 1 ≤ j from q); unfold isMk at h h2; omega
  · exact q
  · have := sumM_mono k (show j + 1 ≤ i from q); unfold isMk at h h2; omega
/-- the work that uses stitch s -/
def isUs (k : Nat → Nat) (s i : Nat) : Prop := sumU k i ≤ s ∧ s < sumU k (i + 1)
theorem isUs_u {k : Nat → Nat} {s i j : Nat} (h : isUs k s i) (h2 : isUs k s j) : i = j := by
  rcases Nat.lt_trichotomy i j with q | q | q
  · have := sumU_mono k (show i + 1 ≤ j from q); unfold isUs at h h2; omega
  · exact q
  · have := sumU_mono k (show j + 1 ≤ i from q); unfold isUs at h h2; omega
/-- a piece: rounds, spiral, kinds, works, yarn -/
def PVd (R : Nat) (K : Nat → Nat → Nat) (w y : Nat → Nat) : Prop :=
  (1 ≤ R ∧ R ≤ 40) ∧ (∀ r, r < R → (1 ≤ w r ∧ w r ≤ 120) ∧ (3 ≤ sumM (K r) (w r) ∧ sumM (K r) (w r) ≤ 120) ∧ ∀ i, i < w r → K r i ≤ 2) ∧ (∀ r, r + 1 < R → sumU (K (r + 1)) (w (r + 1)) = sumM (K r) (w r)) ∧ (∀ k, k < 3 → 1 ≤ y k ∧ y k ≤ 60) ∧ (w 0 ≤ 12 ∧ ∀ i, i < w 0 → K 0 i = 0)
/-! rounds that reach a goal -/
def pm (n t : Nat) : Nat := if n ≤ t then n else t
def pd (n t : Nat) : Nat := if n ≤ t then t - n else n - t
def pk (n t : Nat) : Nat := if n ≤ t then 1 else 2
def isPo (n t : Nat) : Prop := if n ≤ t then t - n ≤ n else 2 * (n - t) ≤ n
def spk (k d m i : Nat) : Nat := if i * d / m < (i + 1) * d / m then k else 0
def mik (k d m i : Nat) : Nat := if (if i < m / 2 then i else m - 1 - i) < m / 2 then spk k (d / 2) (m / 2) (if i < m / 2 then i else m - 1 - i) else if d % 2 = 1 then k else 0
theorem spk_le {k d m i : Nat} (h : k ≤ 2) : spk k d m i ≤ 2 := by unfold spk; split <;> omega
theorem mik_le {k d m i : Nat} (h : k ≤ 2) : mik k d m i ≤ 2 := by
  unfold mik
  by_cases c : (if i < m / 2 then i else m - 1 - i) < m / 2
  · rw [if_pos c]; exact spk_le h
  · rw [if_neg c]; by_cases c2 : d % 2 = 1
    · rw [if_pos c2]; exact h
    · rw [if_neg c2]; omega
theorem pkx_le (n t : Nat) : 1 ≤ pk n t ∧ pk n t ≤ 2 := by unfold pk; split <;> omega
/-! stacked works -/
def nstk (mk row : Nat → Nat) : Nat → Nat | 0 => 0 | n + 1 => nstk mk row n + if (row n ≠ 0 ∧ (mk (sumU row n) = row n ∨ (row n = 2 ∧ mk (sumU row n + 1) = 2))) then 1 else 0
theorem nstk_le (mk row : Nat → Nat) : ∀ n, nstk mk row n ≤ n | 0 => Nat.le_refl 0 | n + 1 => by have := nstk_le mk row n; simp only [nstk]; split <;> omega
theorem nstk_ext {mk mk' row row' : Nat → Nat} : ∀ {n : Nat}, (∀ i, i < n → row i = row' i) → (∀ x, x < sumU row n → mk x = mk' x) → nstk mk row n = nstk mk' row' n
  | 0, _, _ => rfl
  | n + 1, h, h2 => by
    have e : sumU row n = sumU row' n := sumU_ext (fun i hi => h i (Nat.lt_succ_of_lt hi))
    have en := h n (Nat.lt_succ_self n)
    have ih := nstk_ext (n := n) (fun i hi => h i (Nat.lt_succ_of_lt hi)) (fun x hx => h2 x (by simp only [sumU]; omega))
    have u1 := (usB_le (row n)).1
    have m1 : mk (sumU row n) = mk' (sumU row n) := h2 _ (by simp only [sumU]; omega)
    have m2 : row n = 2 → mk (sumU row n + 1) = mk' (sumU row n + 1) := fun q => h2 _ (by simp only [sumU, usB]; rw [if_pos q]; omega)
    simp only [nstk]
    rw [ih, ← e, ← en, m1]
    by_cases q : row n = 2
    · rw [m2 q]
    · simp [q]
/-- f tells the kind of work that made each stitch of a row -/
def mkOk (f k : Nat → Nat) (m : Nat) : Prop := ∀ i, i < m → ∀ x, sumM k i ≤ x → x < sumM k (i + 1) → f x = k i
theorem mk_ex {k : Nat → Nat} : ∀ {m x : Nat}, x < sumM k m → ∃ i, i < m ∧ isMk k x i
  | 0, x, h => absurd h (Nat.not_lt_zero _)
  | m + 1, x, h => by
    rcases Nat.lt_or_ge x (sumM k m) with q | q
    · obtain ⟨i, h1, h2⟩ := mk_ex q
      exact ⟨i, Nat.lt_succ_of_lt h1, h2⟩
    · exact ⟨m, Nat.lt_succ_self m, q, h⟩
theorem us_ex {k : Nat → Nat} : ∀ {m x : Nat}, x < sumU k m → ∃ i, i < m ∧ isUs k x i
  | 0, x, h => absurd h (Nat.not_lt_zero _)
  | m + 1, x, h => by
    rcases Nat.lt_or_ge x (sumU k m) with q | q
    · obtain ⟨i, h1, h2⟩ := us_ex q
      exact ⟨i, Nat.lt_succ_of_lt h1, h2⟩
    · exact ⟨m, Nat.lt_succ_self m, q, h⟩
theorem mkOk_u {f g k : Nat → Nat} {m : Nat} (h : mkOk f k m) (h2 : mkOk g k m) : ∀ x, x < sumM k m → f x = g x := fun x hx => by
  obtain ⟨i, h3, h4⟩ := mk_ex hx
  rw [h i h3 x h4.1 h4.2, h2 i h3 x h4.1 h4.2]
/-- the best shift: the least of those with the fewest -/
def isBst (c : Nat → Nat) (m b : Nat) : Prop := b < m ∧ (∀ x, x < m → c b ≤ c x) ∧ ∀ x, x < b → c b < c x
theorem isBst_u {c : Nat → Nat} {m a b : Nat} (h : isBst c m a) (h2 : isBst c m b) : a = b := by
  rcases Nat.lt_trichotomy a b with q | q | q
  · have := h2.2.2 a q; have := h.2.1 b h2.1; omega
  · exact q
  · have := h.2.2 b q; have := h2.2.1 a h.1; omega
/-! counting in rows -/
theorem sumM_cnt (k : Nat → Nat) : ∀ n, sumM k n = n + cnt k 1 n
  | 0 => rfl
  | n + 1 => by simp only [sumM, cnt, mdB]; rw [sumM_cnt k n]; split <;> omega
theorem sumU_cnt (k : Nat → Nat) : ∀ n, sumU k n = n + cnt k 2 n
  | 0 => rfl
  | n + 1 => by simp only [sumU, cnt, usB]; rw [sumU_cnt k n]; split <;> omega
theorem cnt_ext {k k' : Nat → Nat} {x : Nat} : ∀ {n : Nat}, (∀ i, i < n → k i = k' i) → cnt k x n = cnt k' x n
  | 0, _ => rfl
  | n + 1, h => by simp only [cnt]; rw [cnt_ext (fun i hi => h i (Nat.lt_succ_of_lt hi)), h n (Nat.lt_succ_self n)]
theorem cnt_add (k : Nat → Nat) (x a : Nat) : ∀ b, cnt k x (a + b) = cnt k x a + cnt (fun i => k (a + i)) x b
  | 0 => rfl
  | b + 1 => by rw [show a + (b + 1) = (a + b) + 1 from rfl]; simp only [cnt]; rw [cnt_add k x a b]; omega
theorem cnt_none {k : Nat → Nat} {x : Nat} : ∀ {n : Nat}, (∀ i, i < n → k i ≠ x) → cnt k x n = 0
  | 0, _ => rfl
  | n + 1, h => by simp only [cnt]; rw [cnt_none (fun i hi => h i (Nat.lt_succ_of_lt hi)), if_neg (h n (Nat.lt_succ_self n))]
theorem cnt_rot0 (f : Nat → Nat) (x m s : Nat) (hs : s < m) : cnt (fun i => f ((i + s) % m)) x m = cnt f x m := by
  have h1 : cnt (fun i => f ((i + s) % m)) x m = cnt (fun i => f ((i + s) % m)) x (m - s) + cnt (fun i => f ((m - s + i + s) % m)) x s := by
    rw [← cnt_add]; congr 1; omega
  have h2 : cnt f x m = cnt f x s + cnt (fun i => f (s + i)) x (m - s) := by rw [← cnt_add]; congr 1; omega
  rw [h1, h2, Nat.add_comm]
  congr 1
  · refine cnt_ext (fun i hi => ?_)
    rw [show m - s + i + s = i + m by omega, Nat.add_mod_right, Nat.mod_eq_of_lt (by omega)]
  · refine cnt_ext (fun i hi => ?_)
    rw [Nat.mod_eq_of_lt (by omega), Nat.add_comm]
theorem cnt_rot (f : Nat → Nat) (x m s : Nat) (hm : 0 < m) : cnt (fun i => f ((i + s) % m)) x m = cnt f x m := by
  rw [← cnt_rot0 f x m (s % m) (Nat.mod_lt _ hm)]
  refine cnt_ext (fun i _ => ?_)
  rw [Nat.add_mod_mod]
theorem cnt_rev (f : Nat → Nat) (x : Nat) : ∀ n, cnt (fun i => f (n - 1 - i)) x n = cnt f x n
  | 0 => rfl
  | n + 1 => by
    have h1 := cnt_add (fun i => f (n + 1 - 1 - i)) x 1 n
    rw [Nat.add_comm 1 n] at h1
    rw [h1]
    have h2 : cnt (fun i => (fun i => f (n + 1 - 1 - i)) (1 + i)) x n = cnt (fun i => f (n - 1 - i)) x n := cnt_ext (fun i _ => by show f (n + 1 - 1 - (1 + i)) = f (n - 1 - i); congr 1; omega)
    rw [h2, cnt_rev f x n]
    simp only [cnt, Nat.add_sub_cancel, Nat.sub_zero]
    omega
theorem cnt_spk {k d m : Nat} (hk : k ≠ 0) (hm : 0 < m) (hd : d ≤ m) : ∀ i, cnt (spk k d m) k i = i * d / m
  | 0 => by simp [cnt]
  | i + 1 => by
    simp only [cnt]
    rw [cnt_spk hk hm hd i]
    have e : (i + 1) * d = i * d + d := Nat.succ_mul i d
    have h1 : (i * d + d) / m ≤ (i * d + m) / m := Nat.div_le_div_right (by omega)
    rw [Nat.add_div_right _ hm] at h1
    have h2 : i * d / m ≤ (i * d + d) / m := Nat.div_le_div_right (by omega)
    unfold spk
    rw [e]
    by_cases c : i * d / m < (i * d + d) / m
    · rw [if_pos c, if_pos rfl]; omega
    · rw [if_neg c, if_neg (fun q => hk q.symm)]; omega
theorem cnt_spk_m {k d m : Nat} (hk : k ≠ 0) (hm : 0 < m) (hd : d ≤ m) : cnt (spk k d m) k m = d := by
  rw [cnt_spk hk hm hd, Nat.mul_div_cancel_left _ hm]
theorem cnt_spk_o {k d m x : Nat} (hx : x ≠ 0) (hkx : x ≠ k) (n : Nat) : cnt (spk k d m) x n = 0 := cnt_none (fun i _ => by unfold spk; split <;> omega)
theorem spk_or (k d m j : Nat) : spk k d m j = k ∨ spk k d m j = 0 := by unfold spk; split <;> simp
theorem mik_or (k d m i : Nat) : mik k d m i = k ∨ mik k d m i = 0 := by
  unfold mik
  by_cases c : (if i < m / 2 then i else m - 1 - i) < m / 2
  · rw [if_pos c]; exact spk_or _ _ _ _
  · rw [if_neg c]; by_cases c2 : d % 2 = 1
    · rw [if_pos c2]; exact Or.inl rfl
    · rw [if_neg c2]; exact Or.inr rfl
theorem cnt_mik_o {k d m x : Nat} (hx : x ≠ 0) (hkx : x ≠ k) (n : Nat) : cnt (mik k d m) x n = 0 := cnt_none (fun i _ => by
  rcases mik_or k d m i with q | q <;> rw [q] <;> omega)
theorem mik_lo {k d m i : Nat} (h : i < m / 2) : mik k d m i = spk k (d / 2) (m / 2) i := by
  unfold mik; rw [if_pos h, if_pos h]
theorem mik_hi {k d m i : Nat} (h : i < m / 2) : mik k d m (m - 1 - i) = spk k (d / 2) (m / 2) i := by
  have q : ¬ (m - 1 - i < m / 2) := by omega
  unfold mik; rw [if_neg q, show m - 1 - (m - 1 - i) = i by omega, if_pos h]
theorem mik_mid {k d m : Nat} (h : m % 2 = 1) : mik k d m (m / 2) = if d % 2 = 1 then k else 0 := by
  unfold mik; rw [if_neg (Nat.lt_irrefl _), if_neg (by omega)]
theorem cnt_half {k d m : Nat} (hk : k ≠ 0) (hd : d ≤ m) : cnt (spk k (d / 2) (m / 2)) k (m / 2) = d / 2 := by
  by_cases h : 0 < m / 2
  · exact cnt_spk_m hk h (by omega)
  · rw [show m / 2 = 0 by omega, show d / 2 = 0 by omega]; rfl
theorem cnt_mik_m {k d m : Nat} (hk : k ≠ 0) (hd : d ≤ m) (hp : ¬ (d % 2 = 1 ∧ m % 2 = 0)) : cnt (mik k d m) k m = d := by
  have h1 : cnt (mik k d m) k m = cnt (mik k d m) k (m / 2) + cnt (fun i => mik k d m (m / 2 + i)) k (m - m / 2) := by rw [← cnt_add]; congr 1; omega
  have h2 : cnt (mik k d m) k (m / 2) = d / 2 := by rw [cnt_ext (fun i hi => mik_lo hi)]; exact cnt_half hk hd
  have h4 : ∀ a, m - m / 2 = a + m / 2 → cnt (fun i => mik k d m (m / 2 + (a + i))) k (m / 2) = d / 2 := by
    intro a ha
    rw [← cnt_half hk hd, ← cnt_rev (spk k (d / 2) (m / 2)) k (m / 2)]
    refine cnt_ext (fun i hi => ?_)
    rw [← mik_hi (d := d) (show m / 2 - 1 - i < m / 2 by omega)]
    congr 1; omega
  rw [h1, h2]
  by_cases hm : m % 2 = 1
  · rw [show m - m / 2 = 1 + m / 2 by omega, cnt_add, h4 1 (by omega)]
    simp only [cnt, Nat.add_zero]
    have e := mik_mid (k := k) (d := d) hm
    simp only [e]
    by_cases c : d % 2 = 1
    · simp only [if_pos c, if_true]; omega
    · simp only [if_neg c]; rw [if_neg (fun q => hk q.symm)]; omega
  · rw [show m - m / 2 = 0 + m / 2 by omega, cnt_add, h4 0 (by omega)]
    simp only [cnt]
    omega
theorem po_le {n t : Nat} (h : isPo n t) : pd n t ≤ pm n t := by
  unfold isPo at h; unfold pd pm
  by_cases c : n ≤ t
  · rw [if_pos c] at h; rw [if_pos c, if_pos c]; exact h
  · rw [if_neg c] at h; rw [if_neg c, if_neg c]; omega
/-- a row that reaches the goal -/
def rowGood (row : Nat → Nat) (n t : Nat) : Prop := (∀ i, i < pm n t → row i ≤ 2) ∧ sumU row (pm n t) = n ∧ sumM row (pm n t) = t
theorem rowGood_of {row : Nat → Nat} {n t : Nat} (hpo : isPo n t) (h2 : ∀ i, i < pm n t → row i ≤ 2) (h3 : cnt row (pk n t) (pm n t) = pd n t) (h4 : ∀ x, x ≠ 0 → x ≠ pk n t → cnt row x (pm n t) = 0) : rowGood row n t := by
  refine ⟨h2, ?_, ?_⟩
  · rw [sumU_cnt]
    by_cases c : n ≤ t
    · have e1 : pm n t = n := if_pos c
      have e3 : pk n t = 1 := if_pos c
      have q := h4 2 (by decide) (by rw [e3]; decide)
      rw [q, e1]; rfl
    · have e1 : pm n t = t := if_neg c
      have e2 : pd n t = n - t := if_neg c
      have e3 : pk n t = 2 := if_neg c
      rw [e3] at h3
      rw [h3, e1, e2]; omega
  · rw [sumM_cnt]
    by_cases c : n ≤ t
    · have e1 : pm n t = n := if_pos c
      have e2 : pd n t = t - n := if_pos c
      have e3 : pk n t = 1 := if_pos c
      rw [e3] at h3
      rw [h3, e1, e2]; omega
    · have e1 : pm n t = t := if_neg c
      have e3 : pk n t = 2 := if_neg c
      have q := h4 1 (by decide) (by rw [e3]; decide)
      rw [q, e1]; rfl
theorem rowGood_sp {f : Nat → Nat} {n t s : Nat} (h : 3 ≤ n ∧ n ≤ 120 ∧ 3 ≤ t ∧ t ≤ 120) (hpo : isPo n t) (hf : ∀ i, i < pm n t → f i = spk (pk n t) (pd n t) (pm n t) i) : rowGood (fun i => f ((i + s) % pm n t)) n t := by
  have hm : 0 < pm n t := by unfold pm; split <;> omega
  have hk := pkx_le n t
  have hf2 : ∀ i, f ((i + s) % pm n t) = spk (pk n t) (pd n t) (pm n t) ((i + s) % pm n t) := fun i => hf _ (Nat.mod_lt _ hm)
  refine rowGood_of hpo (fun i _ => ?_) ?_ (fun x hx hx2 => ?_)
  · show f ((i + s) % pm n t) ≤ 2
    rw [hf2]; exact spk_le hk.2
  · rw [cnt_ext (fun i _ => hf2 i), cnt_rot _ _ _ _ hm]; exact cnt_spk_m (by omega) hm (po_le hpo)
  · rw [cnt_ext (fun i _ => hf2 i), cnt_rot _ _ _ _ hm]; exact cnt_spk_o hx hx2 _
theorem rowGood_mi {f : Nat → Nat} {n t : Nat} (hpo : isPo n t) (hp : ¬ (pd n t % 2 = 1 ∧ pm n t % 2 = 0)) (hf : ∀ i, i < pm n t → f i = mik (pk n t) (pd n t) (pm n t) i) : rowGood f n t := by
  have hk := pkx_le n t
  refine rowGood_of hpo (fun i hi => ?_) ?_ (fun x hx hx2 => ?_)
  · rw [hf i hi]; exact mik_le hk.2
  · rw [cnt_ext hf]; exact cnt_mik_m (by omega) (po_le hpo) hp
  · rw [cnt_ext hf]; exact cnt_mik_o hx hx2 _
/-! distances of shaped works round the row -/
def leG (g : Bool) (a b : Nat) : Prop := if g = true then a ≤ b else b ≤ a
def cons2 (k : Nat → Nat) (p q : Nat) : Prop := p < q ∧ k p ≠ 0 ∧ k q ≠ 0 ∧ ∀ j, p < j → j < q → k j = 0
def isNx (k : Nat → Nat) (m i d : Nat) : Prop := 1 ≤ d ∧ k ((i + d) % m) ≠ 0 ∧ ∀ j, 1 ≤ j → j < d → k ((i + j) % m) = 0
def inD (k : Nat → Nat) (m d : Nat) : Prop := ∃ i, i < m ∧ k i ≠ 0 ∧ isNx k m i d
def tw (k : Nat → Nat) (m : Nat) : Prop := ∃ p q, p < q ∧ q < m ∧ k p ≠ 0 ∧ k q ≠ 0
def isDs (k : Nat → Nat) (m : Nat) (g : Bool) (d : Nat) : Prop := (tw k m → inD k m d ∧ ∀ e, inD k m e → leG g e d) ∧ (¬ tw k m → d = 0)
theorem isNx_u {k : Nat → Nat} {m i d e : Nat} (h : isNx k m i d) (h2 : isNx k m i e) : d = e := by
  rcases Nat.lt_trichotomy d e with q | q | q
  · exact absurd (h2.2.2 d h.1 q) h.2.1
  · exact q
  · exact absurd (h.2.2 e h2.1 q) h2.2.1
theorem isDs_u {k : Nat → Nat} {m : Nat} {g : Bool} {d e : Nat} (h : isDs k m g d) (h2 : isDs k m g e) : d = e := by
  by_cases c : tw k m
  · obtain ⟨a1, a2⟩ := h.1 c
    obtain ⟨b1, b2⟩ := h2.1 c
    have q1 := a2 e b1
    have q2 := b2 d a1
    unfold leG at q1 q2
    cases g <;> simp at q1 q2 <;> omega
  · rw [h.2 c, h2.2 c]
theorem cons2_nx {k : Nat → Nat} {m p q : Nat} (h : cons2 k p q) (hq : q < m) : isNx k m p (q - p) := by
  obtain ⟨h1, h2, h3, h4⟩ := h
  refine ⟨by omega, ?_, fun j j1 j2 => ?_⟩
  · rw [show p + (q - p) = q by omega, Nat.mod_eq_of_lt hq]; exact h3
  · rw [Nat.mod_eq_of_lt (by omega)]; exact h4 _ (by omega) (by omega)
theorem wrap_nx {k : Nat → Nat} {m a b : Nat} (hab : a ≤ b) (hb : b < m) (h1 : k a ≠ 0) (h2 : ∀ j, j < a → k j = 0) (h3 : ∀ j, b < j → j < m → k j = 0) : isNx k m b (a + m - b) := by
  refine ⟨by omega, ?_, fun j j1 j2 => ?_⟩
  · rw [show b + (a + m - b) = a + m by omega, Nat.add_mod_right, Nat.mod_eq_of_lt (by omega)]; exact h1
  · rcases Nat.lt_or_ge (b + j) m with q | q
    · rw [Nat.mod_eq_of_lt q]; exact h3 _ (by omega) q
    · rw [show b + j = (b + j - m) + m by omega, Nat.add_mod_right, Nat.mod_eq_of_lt (by omega)]; exact h2 _ (by omega)
theorem cons2_ex {k : Nat → Nat} {i : Nat} (hi : k i ≠ 0) : ∀ n j, i < j → j ≤ i + n → k j ≠ 0 → ∃ q, cons2 k i q ∧ q ≤ j
  | 0, j, h1, h2, _ => absurd h1 (by omega)
  | n + 1, j, h1, h2, h3 => by
    by_cases c : ∃ x, i < x ∧ x < j ∧ k x ≠ 0
    · obtain ⟨x, x1, x2, x3⟩ := c
      obtain ⟨q, q1, q2⟩ := cons2_ex hi n x x1 (by omega) x3
      exact ⟨q, q1, by omega⟩
    · refine ⟨j, ⟨h1, hi, h3, fun x x1 x2 => ?_⟩, Nat.le_refl _⟩
      by_cases c2 : k x = 0
      · exact c2
      · exact absurd ⟨x, x1, x2, c2⟩ c
def fur (c f : Nat) (g : Bool) : Nat := if c = 0 then f else if g = true then Nat.max c f else Nat.min c f
theorem fur_le {c f : Nat} {g : Bool} (h : c ≤ 120) (h2 : f ≤ 120) : fur c f g ≤ 120 := by
  have e1 : Nat.max c f = max c f := rfl
  have e2 : Nat.min c f = min c f := rfl
  unfold fur; split
  · exact h2
  · split <;> omega
theorem fur_or (c f : Nat) (g : Bool) : fur c f g = f ∨ (c ≠ 0 ∧ fur c f g = c) := by
  have e1 : Nat.max c f = max c f := rfl
  have e2 : Nat.min c f = min c f := rfl
  unfold fur; split
  · exact Or.inl rfl
  · split <;> omega
theorem fur_f (c f : Nat) (g : Bool) : leG g f (fur c f g) := by
  have e1 : Nat.max c f = max c f := rfl
  have e2 : Nat.min c f = min c f := rfl
  unfold fur leG; cases g <;> simp <;> split <;> omega
theorem fur_c {c f : Nat} {g : Bool} (h : c ≠ 0) : leG g c (fur c f g) := by
  have e1 : Nat.max c f = max c f := rfl
  have e2 : Nat.min c f = min c f := rfl
  unfold fur leG; rw [if_neg h]; cases g <;> simp <;> omega
theorem leG_t {g : Bool} {a b c : Nat} (h : leG g a b) (h2 : leG g b c) : leG g a c := by
  unfold leG at *; cases g <;> simp at * <;> omega
theorem leG_r (g : Bool) (a : Nat) : leG g a a := by unfold leG; cases g <;> simp
/-- the loop that looks for distances: first, last, chosen -/
def dSome (k : Nat → Nat) (g : Bool) (i a b ch : Nat) : Prop := a ≤ b ∧ b < i ∧ k a ≠ 0 ∧ k b ≠ 0 ∧ (∀ j, j < a → k j = 0) ∧ (∀ j, b < j → j < i → k j = 0) ∧ (ch = 0 → a = b) ∧ (ch ≠ 0 → a < b ∧ ∃ p q, cons2 k p q ∧ q ≤ b ∧ ch = q - p) ∧ ∀ p q, cons2 k p q → q ≤ b → leG g (q - p) ch
def dInv (k : Nat → Nat) (g : Bool) (i : Nat) (fi la : Int) (ch : Nat) : Prop := ch ≤ 120 ∧ ((fi = -1 ∧ la = -1 ∧ ch = 0 ∧ ∀ j, j < i → k j = 0) ∨ ∃ a b : Nat, fi = (a : Int) ∧ la = (b : Int) ∧ dSome k g i a b ch)
theorem dSome_0 {k : Nat → Nat} {g : Bool} {i : Nat} (h : k i ≠ 0) (h2 : ∀ j, j < i → k j = 0) : dSome k g (i + 1) i i 0 :=
  ⟨Nat.le_refl _, Nat.lt_succ_self _, h, h, h2, fun j j1 j2 => absurd j1 (by omega), fun _ => rfl, fun q => absurd rfl q, fun p q c hq => by
    have := h2 p (by have := c.1; omega); exact absurd this c.2.1⟩
theorem dSome_skip {k : Nat → Nat} {g : Bool} {i a b ch : Nat} (h : dSome k g i a b ch) (hk : k i = 0) : dSome k g (i + 1) a b ch := by
  obtain ⟨h1, h2, h3, h4, h5, h6, h7⟩ := h
  refine ⟨h1, by omega, h3, h4, h5, fun j j1 j2 => ?_, h7⟩
  by_cases q : j = i
  · rw [q]; exact hk
  · exact h6 j j1 (by omega)
theorem dSome_add {k : Nat → Nat} {g : Bool} {i a b ch : Nat} (h : dSome k g i a b ch) (hk : k i ≠ 0) : dSome k g (i + 1) a i (fur ch (i - b) g) := by
  obtain ⟨h1, h2, h3, h4, h5, h6, h7, h8, h9⟩ := h
  have hc : cons2 k b i := ⟨h2, h4, hk, h6⟩
  have hne : fur ch (i - b) g ≠ 0 := by rcases fur_or ch (i - b) g with q | ⟨q, q2⟩ <;> omega
  refine ⟨by omega, by omega, h3, hk, h5, fun j j1 j2 => absurd j1 (by omega), fun q => absurd q hne, fun _ => ⟨by omega, ?_⟩, fun p q c hq => ?_⟩
  · rcases fur_or ch (i - b) g with q | ⟨q, q2⟩
    · exact ⟨b, i, hc, Nat.le_refl _, q⟩
    · obtain ⟨-, p, q3, c1, c2, c3⟩ := h8 q
      exact ⟨p, q3, c1, by omega, by rw [q2, c3]⟩
  · by_cases e : q ≤ b
    · have l1 := h9 p q c e
      by_cases z : ch = 0
      · have hab := h7 z
        have := h5 p (by have := c.1; omega)
        exact absurd this c.2.1
      · exact leG_t l1 (fur_c z)
    · have qi : q = i := by
        by_cases z : q = i
        · exact z
        · have := h6 q (by omega) (by omega); exact absurd this c.2.2.1
      have pb : p = b := by
        rcases Nat.lt_trichotomy p b with z | z | z
        · have := c.2.2.2 b z (by omega); exact absurd this h4
        · exact z
        · have := h6 p z (by have := c.1; omega); exact absurd this c.2.1
      rw [qi, pb]; exact fur_f _ _ _
theorem dSome_end {k : Nat → Nat} {g : Bool} {m a b ch : Nat} (h : dSome k g m a b ch) : (a = b → isDs k m g 0) ∧ (a ≠ b → isDs k m g (fur ch (a + m - b) g)) := by
  obtain ⟨h1, h2, h3, h4, h5, h6, h7, h8, h9⟩ := h
  have hw : isNx k m b (a + m - b) := wrap_nx h1 h2 h3 h5 h6
  refine ⟨fun e => ⟨fun ht => ?_, fun _ => rfl⟩, fun e => ⟨fun _ => ⟨?_, fun d hd => ?_⟩, fun ht => absurd ⟨a, b, by omega, h2, h3, h4⟩ ht⟩⟩
  · obtain ⟨p, q, t1, t2, t3, t4⟩ := ht
    exfalso
    rcases Nat.lt_trichotomy p a with z | z | z
    · exact t3 (h5 p z)
    · exact t4 (h6 q (by omega) t2)
    · exact t3 (h6 p (by omega) (by omega))
  · rcases fur_or ch (a + m - b) g with q | ⟨q, q2⟩
    · exact ⟨b, h2, h4, by rw [q]; exact hw⟩
    · obtain ⟨-, p, q3, c1, c2, c3⟩ := h8 q
      exact ⟨p, by have := c1.1; omega, c1.2.1, by rw [q2, c3]; exact cons2_nx c1 (by omega)⟩
  · obtain ⟨i, i1, i2, i3⟩ := hd
    rcases Nat.lt_trichotomy i b with z | z | z
    · obtain ⟨q, c1, c2⟩ := cons2_ex i2 (b - i) b z (by omega) h4
      have e2 := isNx_u i3 (cons2_nx c1 (by omega))
      have l1 := h9 i q c1 c2
      have hz : ch ≠ 0 := fun z2 => e (h7 z2)
      rw [e2]; exact leG_t l1 (fur_c hz)
    · subst z
      rw [isNx_u i3 hw]; exact fur_f _ _ _
    · exact absurd (h6 i z i1) i2
theorem dNone_end {k : Nat → Nat} {g : Bool} {m : Nat} (h : ∀ j, j < m → k j = 0) : isDs k m g 0 :=
  ⟨fun ⟨p, q, t1, t2, t3, _⟩ => absurd (h p (by omega)) t3, fun _ => rfl⟩
noncomputable def dsF (k : Nat → Nat) (m : Nat) (g : Bool) : Nat := Classical.epsilon (fun d => isDs k m g d)
theorem dsF_of {k : Nat → Nat} {m : Nat} {g : Bool} {d : Nat} (h : isDs k m g d) : d = dsF k m g := isDs_u h (Classical.epsilon_spec (p := fun d => isDs k m g d) ⟨d, h⟩)
def isMi (k : Nat → Nat) (m : Nat) : Prop := ∀ i, i < m → k i = k (m - 1 - i)
noncomputable def miN (k : Nat → Nat) (m : Nat) : Nat := @ite _ (isMi k m) (Classical.propDecidable _) 1 0
theorem miN_of {k : Nat → Nat} {m : Nat} {b : Bool} (h : b = true ↔ isMi k m) : miN k m = if b = true then 1 else 0 := by
  unfold miN
  by_cases c : isMi k m
  · rw [if_pos c, if_pos (h.mpr c)]
  · rw [if_neg c, if_neg (fun q => c (h.mp q))]
theorem miN_le (k : Nat → Nat) (m : Nat) : miN k m ≤ 1 := by unfold miN; split <;> omega
/-! shapes -/
def gz (z : Int) : Nat := (if (3 : Int) < (if (120 : Int) ≤ z then 120 else z) then (if (120 : Int) ≤ z then 120 else z) else 3).toNat
def ruf (f : Nat) : Nat → Nat | 0 => f | r + 1 => Nat.min 120 (2 * ruf f r)
def gs1 (f sz r : Nat) : Int := ((f : Nat) : Int) * (if ((Nat.min (r + 1) sz : Nat) : Int) ≤ ((3 * sz : Nat) : Int) - ((r : Nat) : Int) then ((Nat.min (r + 1) sz : Nat) : Int) else ((3 * sz : Nat) : Int) - ((r : Nat) : Int))
def goalF (f sh sz r : Nat) : Nat := if sh = 0 then gz ((f * (r + 1) : Nat) : Int) else if sh = 1 then gz (gs1 f sz r) else if sh = 2 then ruf f r else if sh = 3 then gz ((f + r * sz : Nat) : Int) else gz ((f * Nat.min (r + 1) sz : Nat) : Int)
theorem gz_rng (z : Int) : 3 ≤ gz z ∧ gz z ≤ 120 := by unfold gz; split <;> split at * <;> omega
theorem gz_z (z : Int) : (gz z : Int) = if (3 : Int) < (if (120 : Int) ≤ z then 120 else z) then (if (120 : Int) ≤ z then 120 else z) else 3 := by
  unfold gz
  exact Int.toNat_of_nonneg (by split <;> omega)
theorem ruf_rng {f : Nat} (h : 3 ≤ f ∧ f ≤ 12) : ∀ r, 3 ≤ ruf f r ∧ ruf f r ≤ 120
  | 0 => by simp only [ruf]; omega
  | r + 1 => by
    have := ruf_rng h r
    have e : Nat.min 120 (2 * ruf f r) = min 120 (2 * ruf f r) := rfl
    simp only [ruf]; rw [e]; omega
theorem goalF_rng {f sh sz r : Nat} (h : 3 ≤ f ∧ f ≤ 12) : 3 ≤ goalF f sh sz r ∧ goalF f sh sz r ≤ 120 := by
  unfold goalF
  split
  · exact gz_rng _
  · split
    · exact gz_rng _
    · split
      · exact ruf_rng h r
      · split
        · exact gz_rng _
        · exact gz_rng _
theorem ruf_top {f : Nat} : ∀ {i j : Nat}, i ≤ j → 120 ≤ ruf f i → ruf f i ≤ 120 → ruf f j = 120 := by
  intro i j h h1 h2
  induction h with
  | refl => omega
  | step _ ih =>
    have e : ∀ x, Nat.min 120 (2 * x) = min 120 (2 * x) := fun _ => rfl
    simp only [ruf]; rw [e, ih]; rfl
theorem tot0 {R : Nat} {K : Nat → Nat → Nat} {w y : Nat → Nat} (h : PVd R K w y) : sumM (K 0) (w 0) = w 0 := by
  rw [sumM_cnt, cnt_none (fun i hi => by rw [h.2.2.2.2.2 i hi]; decide)]; rfl
theorem tot0_rng {R : Nat} {K : Nat → Nat → Nat} {w y : Nat → Nat} (h : PVd R K w y) : 3 ≤ sumM (K 0) (w 0) ∧ sumM (K 0) (w 0) ≤ 12 := by
  have h1 := (h.2.1 0 (by have := h.1; omega)).2.1
  have h2 := h.2.2.2.2.1
  have := tot0 h
  omega
def difF (f sh sz : Nat) (t : Nat → Nat) : Nat → Nat | 0 => 0 | n + 1 => difF f sh sz t n + Int.natAbs ((t n : Int) - (goalF f sh sz n : Int))
theorem difF_le {f sh sz : Nat} {t : Nat → Nat} (h : 3 ≤ f ∧ f ≤ 12) : ∀ {n : Nat}, (∀ i, i < n → t i ≤ 120) → difF f sh sz t n ≤ 120 * n
  | 0, _ => Nat.le_refl 0
  | n + 1, ht => by
    have h1 := difF_le (sz := sz) (sh := sh) h (n := n) (fun i hi => ht i (Nat.lt_succ_of_lt hi))
    have h2 := ht n (Nat.lt_succ_self n)
    have h3 := goalF_rng (sh := sh) (sz := sz) (r := n) h
    simp only [difF]; omega
/-- the shape and size with the least sum, the least number of several, of those with 100 * shape + size below N -/
def isNs (D : Nat → Nat → Nat) (N b : Nat) : Prop := ∃ sh sz, sh < 5 ∧ 1 ≤ sz ∧ sz ≤ 20 ∧ b = 100 * sh + sz ∧ b < N ∧ ∀ s2 z2, s2 < 5 → 1 ≤ z2 → z2 ≤ 20 → 100 * s2 + z2 < N → D sh sz ≤ D s2 z2 ∧ (D s2 z2 ≤ D sh sz → b ≤ 100 * s2 + z2)
theorem isNs_u {D : Nat → Nat → Nat} {N a b : Nat} (h : isNs D N a) (h2 : isNs D N b) : a = b := by
  obtain ⟨s1, z1, a1, a2, a3, a4, a5, a6⟩ := h
  obtain ⟨s2, z2, b1, b2, b3, b4, b5, b6⟩ := h2
  have q1 := a6 s2 z2 b1 b2 b3 (by omega)
  have q2 := b6 s1 z1 a1 a2 a3 (by omega)
  have q3 := q1.2 q2.1
  have q4 := q2.2 q1.1
  omega
/-! a total, reached -/
def ntF (t x k : Nat) : Nat := if x < t then Nat.min t (x + Nat.min x k) else Nat.max t (x - Nat.min (x / 2) k)
def itr (t k x0 : Nat) : Nat → Nat | 0 => x0 | n + 1 => ntF t (itr t k x0 n) k
def isRt (t k x0 n : Nat) : Prop := itr t k x0 n = t ∧ ∀ j, j < n → itr t k x0 j ≠ t
theorem isRt_u {t k x0 a b : Nat} (h : isRt t k x0 a) (h2 : isRt t k x0 b) : a = b := by
  rcases Nat.lt_trichotomy a b with q | q | q
  · exact absurd h.1 (h2.2 a q)
  · exact q
  · exact absurd h2.1 (h.2 b q)
theorem ntF_step {t x k : Nat} (ht : 3 ≤ t ∧ t ≤ 120) (hx : 3 ≤ x ∧ x ≤ 120) (hk : 1 ≤ k) (h : x ≠ t) : (3 ≤ ntF t x k ∧ ntF t x k ≤ 120) ∧ Int.natAbs ((ntF t x k : Int) - t) + 1 ≤ Int.natAbs ((x : Int) - t) := by
  have e1 : ∀ a b, Nat.min a b = min a b := fun _ _ => rfl
  have e2 : ∀ a b, Nat.max a b = max a b := fun _ _ => rfl
  unfold ntF
  by_cases c : x < t
  · rw [if_pos c, e1, e1]; omega
  · rw [if_neg c, e1, e2]; omega
/-! the greatest round, distances: they are there -/
theorem ds_ex (k : Nat → Nat) (g : Bool) : ∀ i, (∀ j, j < i → k j = 0) ∨ ∃ a b ch, dSome k g i a b ch
  | 0 => Or.inl (fun j hj => absurd hj (by omega))
  | i + 1 => by
    by_cases c : k i = 0
    · rcases ds_ex k g i with q | ⟨a, b, ch, q⟩
      · exact Or.inl (fun j hj => by rcases Nat.lt_or_ge j i with z | z; exact q j z; rw [show j = i by omega]; exact c)
      · exact Or.inr ⟨a, b, ch, dSome_skip q c⟩
    · rcases ds_ex k g i with q | ⟨a, b, ch, q⟩
      · exact Or.inr ⟨i, i, 0, dSome_0 c q⟩
      · exact Or.inr ⟨a, i, _, dSome_add q c⟩
theorem dsF_is (k : Nat → Nat) (m : Nat) (g : Bool) : isDs k m g (dsF k m g) := by
  have h : ∃ d, isDs k m g d := by
    rcases ds_ex k g m with q | ⟨a, b, ch, q⟩
    · exact ⟨0, dNone_end q⟩
    · by_cases e : a = b
      · exact ⟨0, (dSome_end q).1 e⟩
      · exact ⟨_, (dSome_end q).2 e⟩
  exact Classical.epsilon_spec (p := fun d => isDs k m g d) h
theorem inD_le {k : Nat → Nat} {m d : Nat} (h : inD k m d) : d ≤ m := by
  obtain ⟨i, h1, h2, h3⟩ := h
  rcases Nat.lt_or_ge m d with q | q
  · have := h3.2.2 m (by omega) q
    rw [Nat.add_mod_right, Nat.mod_eq_of_lt h1] at this
    exact absurd this h2
  · exact q
theorem dsF_le (k : Nat → Nat) (m : Nat) (g : Bool) : dsF k m g ≤ m := by
  have h := dsF_is k m g
  by_cases c : tw k m
  · exact inD_le (h.1 c).1
  · rw [h.2 c]; exact Nat.zero_le _
theorem yrn_le {y k : Nat → Nat} (hy : ∀ x, x < 3 → y x ≤ 60) : ∀ {n : Nat}, (∀ i, i < n → k i ≤ 2) → yrn y k n ≤ 60 * n
  | 0, _ => Nat.le_refl 0
  | n + 1, h => by
    have h1 := yrn_le hy (n := n) (fun i hi => h i (Nat.lt_succ_of_lt hi))
    have h2 := hy (k n) (by have := h n (Nat.lt_succ_self n); omega)
    simp only [yrn]; omega
/-- the round with the greatest total, the lowest of several -/
def isWd (t : Nat → Nat) (R b : Nat) : Prop := b < R ∧ (∀ r, r < R → t r ≤ t b) ∧ ∀ r, r < b → t r < t b
theorem isWd_u {t : Nat → Nat} {R a b : Nat} (h : isWd t R a) (h2 : isWd t R b) : a = b := by
  rcases Nat.lt_trichotomy a b with q | q | q
  · have := h2.2.2 a q; have := h.2.1 b h2.1; omega
  · exact q
  · have := h.2.2 b q; have := h2.2.1 a h.1; omega
noncomputable def wdF (t : Nat → Nat) (R : Nat) : Nat := Classical.epsilon (fun b => isWd t R b)
theorem wdF_of {t : Nat → Nat} {R b : Nat} (h : isWd t R b) : b = wdF t R := isWd_u h (Classical.epsilon_spec (p := fun b => isWd t R b) ⟨b, h⟩)
