-- by hand: small helps
theorem hp1 {lo hi y : Int} {k : Nat} (h1 : lo ≤ y) (h2 : y ≤ hi) : ∀ t, ([(.inl (lo, hi) : fx_T)])[k % ([(.inl (lo, hi) : fx_T)]).length]? = some t → ∃ lo' hi', t = .inl (lo', hi') ∧ lo' ≤ y ∧ y ≤ hi' := by
  intro t ht
  have e : k % ([(.inl (lo, hi) : fx_T)]).length = 0 := Nat.mod_one k
  rw [e] at ht
  simp only [List.getElem?_cons_zero, Option.some.injEq] at ht
  exact ⟨lo, hi, ht.symm, h1, h2⟩
theorem gp1 {lo hi y : Int} {k : Nat} (h : ∀ lo' hi', ([(.inl (lo, hi) : fx_T)])[k % ([(.inl (lo, hi) : fx_T)]).length]? = some (.inl (lo', hi')) → lo' ≤ y ∧ y ≤ hi') : lo ≤ y ∧ y ≤ hi := h lo hi (by
  have e : k % ([(.inl (lo, hi) : fx_T)]).length = 0 := Nat.mod_one k
  rw [e]; rfl)
theorem ok_z {gs ad : List Nat} {lo hi z : Int} (h0 : -2147483648 ≤ lo) (h3 : hi ≤ 2147483647) (h1 : lo ≤ z) (h2 : z ≤ hi) : fx_ok gs ad (.inl (lo, hi)) (zv z) := ⟨_, rfl, by rw [zv_i ⟨by omega, by omega⟩]; exact h1, by rw [zv_i ⟨by omega, by omega⟩]; exact h2⟩
theorem ok_r {ad : List Nat} {g a : Nat} (h : ad[g]? = some a) (hg : gsM[g]? = some g) (hl : g < 10000) : fx_ok gsM ad (.inr (.inr (g + 1))) (.ref a) := ⟨g, a, h, Or.inl ⟨hl, hg⟩, rfl⟩
theorem ok_iz {gs ad : List Nat} {lo hi : Int} {v : Value} (h : fx_ok gs ad (.inl (lo, hi)) v) : ∃ z, v = zv z ∧ lo ≤ z ∧ z ≤ hi ∧ rg z := by
  obtain ⟨x, rfl, h1, h2⟩ := h
  have r := fx_r32 x
  unfold fx_lo32 fx_hi32 at r
  exact ⟨x.toInt, zv_of x, h1, h2, r⟩
theorem ok_rr {ad : List Nat} {g : Nat} {v : Value} (hl : g < 10000) (h : fx_ok gsM ad (.inr (.inr (g + 1))) v) : ∃ a, v = .ref a ∧ ad[g]? = some a := by
  obtain ⟨k, a, h1, h2, rfl⟩ := h
  rcases h2 with ⟨_, h2⟩ | ⟨h2, _⟩
  · have := tm_gs h2; subst this; exact ⟨a, rfl, h1⟩
  · omega
theorem ty_nil {Y : fx_Y} {ad : List Nat} : fx_ty Y ad [] [] := ⟨rfl, fun i t h => by simp at h⟩
theorem ty_cons {Y : fx_Y} {ad : List Nat} {t : fx_T} {v : Value} {ts : List fx_T} {vs : List Value} (h : fx_ok Y.1 ad t v) (hs : fx_ty Y ad ts vs) : fx_ty Y ad (t :: ts) (v :: vs) := ⟨by simp [hs.1], fun i t' hi => by
  cases i with
  | zero => simp at hi; subst hi; exact ⟨v, rfl, h⟩
  | succ i => simpa using hs.2 i t' (by simpa using hi)⟩
theorem ty_uc {Y : fx_Y} {ad : List Nat} {t : fx_T} {ts : List fx_T} {av : List Value} (h : fx_ty Y ad (t :: ts) av) : ∃ v vs, av = v :: vs ∧ fx_ok Y.1 ad t v ∧ fx_ty Y ad ts vs := by
  obtain ⟨v, v1, v2⟩ := h.2 0 t rfl
  cases av with
  | nil => cases v1
  | cons u vs =>
    simp only [List.getElem?_cons_zero, Option.some.injEq] at v1
    subst v1
    exact ⟨u, vs, rfl, v2, by have := h.1; simpa using this, fun i t' hi => by simpa using h.2 (i + 1) t' (by simpa using hi)⟩
theorem ty_un {Y : fx_Y} {ad : List Nat} {av : List Value} (h : fx_ty Y ad [] av) : av = [] := List.length_eq_zero_iff.mp h.1
/-- a fact that a call wants: a field of the object -/
theorem fs_f {cy : Nat → ClassId} {ad : List Nat} {ws : va_W} {a fi : Nat} {av : List Value} {lo hi : Int} (hw : fx_wo (gsM, TM, cy, fun _ => True) ad ws) (ha : ad[0]? = some a) (h0 : av[0]? = some (.ref a)) (ht : ∃ lo0 hi0, tsM[fi]? = some (.inl (lo0, hi0))) (h1 : lo ≤ vi ws 0 fi) (h2 : vi ws 0 fi ≤ hi) : ∃ rt, fx_fs (gsM, TM, cy, fun _ => True) ad ws av [((0, fi), .inl (lo, hi))] rt := by
  obtain ⟨vs, g1, g2, g3, -⟩ := tm_obj hw ha TM0
  obtain ⟨lo0, hi0, ht⟩ := ht
  obtain ⟨v, v1, x, rfl, x1, x2⟩ := g3 fi _ ht
  have e := vi_f g1 v1
  exact ⟨_, a, 0, _, _, h0, g1, v1, ⟨x, rfl, by rw [← e]; exact h1, by rw [← e]; exact h2⟩, rfl⟩
/-- .. and what it tells -/
theorem fs_t {cy : Nat → ClassId} {ad : List Nat} {ws : va_W} {a fi : Nat} {av rt : List Value} {lo hi : Int} (hnd : ∀ i j a : Nat, ad[i]? = some a → ad[j]? = some a → i = j) (hw : fx_wo (gsM, TM, cy, fun _ => True) ad ws) (ha : ad[0]? = some a) (h0 : av[0]? = some (.ref a)) (h : fx_fs (gsM, TM, cy, fun _ => True) ad ws av [((0, fi), .inl (lo, hi))] rt) : lo ≤ vi ws 0 fi ∧ vi ws 0 fi ≤ hi := by
  obtain ⟨b, k, el, v, h1, h2, h3, ⟨x, rfl, x1, x2⟩, -⟩ := h
  simp only [] at h1
  rw [h0] at h1
  cases h1
  have hk : ad[k]? = some a := by have := hw.1; rw [← this, List.getElem?_map, h2]; rfl
  have e := hnd _ _ _ hk ha
  subst e
  obtain ⟨vs, g1, -⟩ := tm_obj hw ha TM0
  rw [g1] at h2
  cases h2
  rw [vi_f g1 h3]
  exact ⟨x1, x2⟩

