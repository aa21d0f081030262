/-! ===== no ROW is longer than the LOANS that have begun ===== -/
def MB (k n : Nat) (h : xh) : Prop := ∀ u, u < k → h 83 u ≤ 2147483648 + n
theorem MB.up {k n e v : Nat} {h : xh} (m : MB k n h) (hv : v ≤ 2147483648 + n) : MB k n (x_up h 83 e v) := fun u hu => by
  unfold x_up
  by_cases z : 83 = 83 ∧ u = e
  · rw [if_pos z]; exact hv
  · rw [if_neg z]; exact m u hu
theorem MB.ext {k n v : Nat} {h : xh} (m : MB k n h) (hv : v ≤ 2147483648 + n) : MB (k + 1) n (x_up h 83 k v) := fun u hu => by
  unfold x_up
  by_cases z : 83 = 83 ∧ u = k
  · rw [if_pos z]; exact hv
  · rw [if_neg z]
    exact m u (by
      have e : u ≠ k := fun q => z ⟨rfl, q⟩
      omega)
theorem MB.oth {k n q e v : Nat} {h : xh} (m : MB k n h) (hq : q ≠ 83) : MB k n (x_up h q e v) := fun u hu => by
  rw [x_up_k (Ne.symm hq)]
  exact m u hu
theorem MB.fr {k n M : Nat} {h h' : xh} (m : MB k n h) (f : Fr M h h') (hg : Nat.testBit M 33 = false) : MB k n h' := fun u hu => by
  rw [f 83 u hg]
  exact m u hu
theorem MB.mono {k n k' n' : Nat} {h : xh} (m : MB k n h) (hk : k' ≤ k) (hn : n ≤ n') : MB k' n' h := fun u hu =>
  Nat.le_trans (m u (Nat.lt_of_lt_of_le hu hk)) (Nat.add_le_add_left hn _)
theorem MB.zero {n : Nat} {h : xh} : MB 0 n h := fun u hu => absurd hu (Nat.not_lt_zero _)
/-- how many of the first n LOANS have begun by DAY d and LOAN l -/
def cn (f : Nat → Nat) (d l : Nat) : Nat → Nat
  | 0 => 0
  | n + 1 => cn f d l n + (if f n < d ∨ (f n = d ∧ n < l) then 1 else 0)
theorem cn_le {f : Nat → Nat} {d l : Nat} : ∀ n, cn f d l n ≤ n
  | 0 => Nat.le_refl _
  | n + 1 => by
    have e := cn_le (f := f) (d := d) (l := l) n
    show cn f d l n + (if f n < d ∨ (f n = d ∧ n < l) then 1 else 0) ≤ n + 1
    split <;> omega
theorem cn_lt {f : Nat → Nat} {d l : Nat} (h : f l = d) : ∀ n, l < n → cn f d l n + 1 ≤ n
  | 0, hl => absurd hl (Nat.not_lt_zero _)
  | n + 1, hl => by
    show cn f d l n + (if f n < d ∨ (f n = d ∧ n < l) then 1 else 0) + 1 ≤ n + 1
    rcases Nat.lt_or_ge l n with g | g
    · have e := cn_lt h n g
      split <;> omega
    · have e : l = n := by omega
      subst e
      have e2 := cn_le (f := f) (d := d) (l := l) l
      rw [if_neg (by omega)]
      omega
theorem cn_stay {f : Nat → Nat} {d l : Nat} : ∀ n, n ≤ l → cn f d (l + 1) n = cn f d l n
  | 0, _ => rfl
  | n + 1, hn => by
    show cn f d (l + 1) n + (if f n < d ∨ (f n = d ∧ n < l + 1) then 1 else 0) = cn f d l n + (if f n < d ∨ (f n = d ∧ n < l) then 1 else 0)
    rw [cn_stay n (by omega)]
    by_cases g : f n < d ∨ (f n = d ∧ n < l)
    · rw [if_pos g, if_pos (by omega)]
    · rw [if_neg g, if_neg (by omega)]
theorem cn_step {f : Nat → Nat} {d l : Nat} (h : f l = d) : ∀ n, l < n → cn f d (l + 1) n = cn f d l n + 1
  | 0, hl => absurd hl (Nat.not_lt_zero _)
  | n + 1, hl => by
    show cn f d (l + 1) n + (if f n < d ∨ (f n = d ∧ n < l + 1) then 1 else 0) = cn f d l n + (if f n < d ∨ (f n = d ∧ n < l) then 1 else 0) + 1
    rcases Nat.lt_or_ge l n with g | g
    · rw [cn_step h n g]
      by_cases q : f n < d ∨ (f n = d ∧ n < l)
      · rw [if_pos q, if_pos (by omega)]
      · rw [if_neg q, if_neg (by omega)]
    · have e : l = n := by omega
      subst e
      rw [cn_stay l (Nat.le_refl _), if_pos (by omega), if_neg (by omega)]
theorem cn_skip {f : Nat → Nat} {d l : Nat} (h : f l ≠ d) : ∀ n, cn f d (l + 1) n = cn f d l n
  | 0 => rfl
  | n + 1 => by
    show cn f d (l + 1) n + (if f n < d ∨ (f n = d ∧ n < l + 1) then 1 else 0) = cn f d l n + (if f n < d ∨ (f n = d ∧ n < l) then 1 else 0)
    rw [cn_skip h n]
    by_cases g : f n < d ∨ (f n = d ∧ n < l)
    · rw [if_pos g, if_pos (by omega)]
    · by_cases e : n = l
      · subst e
        rw [if_neg g, if_neg (by omega)]
      · rw [if_neg g, if_neg (by omega)]
theorem cn_day {f : Nat → Nat} {d l : Nat} : ∀ n, cn f d l n ≤ cn f (d + 1) 0 n
  | 0 => Nat.le_refl _
  | n + 1 => by
    have e := cn_day (f := f) (d := d) (l := l) n
    show cn f d l n + (if f n < d ∨ (f n = d ∧ n < l) then 1 else 0) ≤ cn f (d + 1) 0 n + (if f n < d + 1 ∨ (f n = d + 1 ∧ n < 0) then 1 else 0)
    by_cases g : f n < d ∨ (f n = d ∧ n < l)
    · rw [if_pos g, if_pos (by omega)]
      omega
    · rw [if_neg g]
      omega
