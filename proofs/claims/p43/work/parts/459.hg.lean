
-- the rule's stack and its code: pure
def cn (q : Int → Bool) (e : Nat → Int) : Nat → Int
  | 0 => 0
  | p + 1 => cn q e p + (if 1 ≤ p ∧ q (e p) = true then 1 else 0)
def q37 (x : Int) : Bool := decide (x = 3) || decide (x = 7)
def q3 (x : Int) : Bool := decide (x = 3)
theorem cn_congr {q : Int → Bool} {e e' : Nat → Int} : ∀ {p : Nat}, (∀ j, j < p → e' j = e j) → cn q e' p = cn q e p
  | 0, _ => rfl
  | p + 1, h => by
    simp only [cn]
    rw [cn_congr (fun j hj => h j (by omega)), h p (by omega)]
theorem cn_b {q : Int → Bool} {e : Nat → Int} : ∀ (p : Nat), 0 ≤ cn q e p ∧ cn q e p ≤ p ∧ (1 ≤ p → cn q e p ≤ (p : Int) - 1)
  | 0 => ⟨by simp [cn], by simp [cn], fun h => by omega⟩
  | p + 1 => by
    have ih := cn_b (q := q) (e := e) p
    simp only [cn]
    obtain ⟨h1, h2, h3⟩ := ih
    by_cases hp : 1 ≤ p
    · have := h3 hp
      split <;> omega
    · rw [if_neg (by omega)]
      have : p = 0 := by omega
      subst this
      simp only [cn] at *
      omega
theorem cn_3 {e : Nat → Int} : ∀ (p : Nat), cn q3 e p ≤ cn q37 e p
  | 0 => by simp [cn]
  | p + 1 => by
    have ih := cn_3 (e := e) p
    simp only [cn, q3, q37]
    by_cases h : e p = 3
    · simp only [h]
      split <;> simp_all <;> omega
    · simp only [h, decide_false, Bool.false_or]
      split <;> split <;> simp_all <;> omega
theorem cn_s {q : Int → Bool} {e : Nat → Int} {p : Nat} (hp : 1 ≤ p) : cn q e (p + 1) = cn q e p + (if q (e p) = true then 1 else 0) := by
  simp only [cn, hp, true_and]
theorem dep_congr {c c' : Nat → Int} {f : Nat} : ∀ {n : Nat}, (∀ j, f ≤ j → j < f + n → c' j = c j) → dep c' f n = dep c f n
  | 0, _ => rfl
  | n + 1, h => by
    simp only [dep]
    rw [dep_congr (fun j h1 h2 => h j h1 (by omega)), h (f + n) (by omega) (by omega)]
theorem wfc_congr {c c' : Nat → Int} {f t : Nat} (h : ∀ j, f ≤ j → j < t → c' j = c j) (hw : wfc c f t) : wfc c' f t := by
  intro n hn
  have e1 : c' (f + n) = c (f + n) := h _ (by omega) hn
  have e2 : dep c' f n = dep c f n := dep_congr (fun j h1 h2 => h j h1 (by omega))
  rw [e1, e2]
  exact hw n hn
/-- one code more -/
theorem wfc_one {c c' : Nat → Int} {f t : Nat} {x : Int} (hft : f ≤ t) (h : ∀ j, c' j = if j = t then x else c j) (hw : wfc c f t) (hx : if 97 ≤ x ∧ x ≤ 122 then 0 ≤ dep c f (t - f) ∧ dep c f (t - f) < 60 else if x = 126 then 1 ≤ dep c f (t - f) ∧ dep c f (t - f) ≤ 60 else 2 ≤ dep c f (t - f) ∧ dep c f (t - f) ≤ 60) : wfc c' f (t + 1) ∧ dep c' f (t + 1 - f) = dep c f (t - f) + dl x := by
  have hc : ∀ j, f ≤ j → j < t → c' j = c j := fun j h1 h2 => by rw [h, if_neg (by omega)]
  have hd : dep c' f (t - f) = dep c f (t - f) := dep_congr (fun j h1 h2 => hc j h1 (by omega))
  have et : f + (t - f) = t := by omega
  refine ⟨fun n hn => ?_, ?_⟩
  · by_cases hnt : f + n < t
    · exact wfc_congr hc hw n hnt
    · have en : n = t - f := by omega
      have e1 : c' (f + n) = x := by rw [h, if_pos (by omega)]
      rw [e1, en, hd]
      exact hx
  · have e3 : t + 1 - f = (t - f) + 1 := by omega
    rw [e3]
    simp only [dep]
    rw [hd, et, h, if_pos rfl]
/-- the stack of a rule, and the code so far; m: 0 a unit is wanted, 1 behind one -/
def EI (ws : va_W) (f : Nat) (m : Int) : Prop :=
  (1 ≤ vi ws 0 38 ∧ vi ws 0 38 ≤ 60 ∧ vi ws 23 0 = 8) ∧ (∀ j : Nat, 1 ≤ j → (j : Int) < vi ws 0 38 → 1 ≤ vi ws 23 j ∧ vi ws 23 j ≤ 7) ∧
  (∀ j : Nat, 1 ≤ j → (j : Int) < vi ws 0 38 → (vi ws 23 j = 3 → vi ws 24 j = 126) ∧ (vi ws 23 j < 7 → ¬ vi ws 23 j = 3 → ¬ (97 ≤ vi ws 24 j ∧ vi ws 24 j ≤ 122) ∧ ¬ vi ws 24 j = 126)) ∧
  (vi ws 0 37 = cn q37 (vi ws 23) (vi ws 0 38).toNat ∧ vi ws 0 37 ≤ 7) ∧ (0 ≤ vi ws 0 39 ∧ vi ws 0 39 ≤ 30) ∧ ((f : Int) ≤ vi ws 0 36) ∧
  (dep (vi ws 21) f ((vi ws 0 36).toNat - f) = vi ws 0 38 - 1 - vi ws 0 37 + m ∧ dep (vi ws 21) f ((vi ws 0 36).toNat - f) ≤ vi ws 0 39) ∧
  (vi ws 0 36 - f + cn q3 (vi ws 23) (vi ws 0 38).toNat + dep (vi ws 21) f ((vi ws 0 36).toNat - f) ≤ 9 * vi ws 0 39 + (1 - m) * vi ws 0 37) ∧ wfc (vi ws 21) f (vi ws 0 36).toNat

