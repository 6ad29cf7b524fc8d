/-! THE PURE MACHINE: worlds as lists of cells, references as places in the list -/
abbrev gE : Type := (Nat × vp_A) ⊕ (Nat × List Value)
abbrev gW : Type := List gE
abbrev gM : Type := MethodName × ByteArray × Nat × Option FieldType × List (Nat × Nat × Nat × Nat)
abbrev gR : Type := Option Value ⊕ String
def gv (κ : Nat → Nat) : Value → Value
  | .ref k => .ref (κ k)
  | v => v
def ga (κ : Nat → Nat) (a : vp_A) : vp_A := (a.1, match a.2 with
  | .inl f => .inl f
  | .inr (.inl f) => .inr (.inl f)
  | .inr (.inr (.inl f)) => .inr (.inr (.inl f))
  | .inr (.inr (.inr (.inl f))) => .inr (.inr (.inr (.inl f)))
  | .inr (.inr (.inr (.inr f))) => .inr (.inr (.inr (.inr (fun j => (f j).map κ)))))
def ge (dA : Nat → ClassId) (κ : Nat → Nat) : gE → va_E
  | .inl q => .inl (dA q.1, ga κ q.2)
  | .inr o => .inr (o.1, o.2.map (gv κ))
def gk (dA : Nat → ClassId) (κ : Nat → Nat) (w : gW) : va_W := w.mapIdx (fun i e => (κ i, ge dA κ e))
theorem gk_get {dA : Nat → ClassId} {κ : Nat → Nat} {w : gW} {k : Nat} {e : gE} (h : w[k]? = some e) : (gk dA κ w)[k]? = some (κ k, ge dA κ e) := by
  simp [gk, List.getElem?_mapIdx, h]
theorem gk_set {dA : Nat → ClassId} {κ : Nat → Nat} {w : gW} {k : Nat} {e : gE} : gk dA κ (w.set k e) = (gk dA κ w).set k (κ k, ge dA κ e) := by
  apply List.ext_getElem?
  intro i
  simp only [gk, List.getElem?_mapIdx, List.getElem?_set, List.length_mapIdx]
  by_cases h : k = i
  · subst h
    by_cases h2 : k < w.length
    · simp [h2]
    · simp [h2]
  · simp [h]
theorem gk_len {dA : Nat → ClassId} {κ : Nat → Nat} {w : gW} : (gk dA κ w).length = w.length := by simp [gk]
theorem gv_cat (κ : Nat → Nat) (v : Value) : (gv κ v).category = v.category := by cases v <;> rfl
/-- the locals that are known, by their places -/
def gas (κ : Nat → Nat) : Nat → List (Option Value) → List (Nat × Value)
  | _, [] => []
  | i, none :: r => gas κ (i + 1) r
  | i, some v :: r => (i, gv κ v) :: gas κ (i + 1) r
theorem gas_mem (κ : Nat → Nat) : ∀ (ls : List (Option Value)) (i : Nat) (q : Nat × Value), q ∈ gas κ i ls ↔ ∃ (k : Nat) (v : Value), ls[k]? = some (some v) ∧ q = (i + k, gv κ v) := by
  intro ls
  induction ls with
  | nil => intro i q; simp [gas]
  | cons a r ih =>
    intro i q
    cases a with
    | none =>
      simp only [gas, ih]
      constructor
      · rintro ⟨k, v, h1, h2⟩
        exact ⟨k + 1, v, by simpa using h1, by rw [h2]; congr 1; omega⟩
      · rintro ⟨k, v, h1, h2⟩
        cases k with
        | zero => simp at h1
        | succ k => exact ⟨k, v, by simpa using h1, by rw [h2]; congr 1; omega⟩
    | some u =>
      simp only [gas, List.mem_cons, ih]
      constructor
      · rintro (h | ⟨k, v, h1, h2⟩)
        · exact ⟨0, u, by simp, by simpa using h⟩
        · exact ⟨k + 1, v, by simpa using h1, by rw [h2]; congr 1; omega⟩
      · rintro ⟨k, v, h1, h2⟩
        cases k with
        | zero =>
          simp at h1
          subst h1
          exact Or.inl (by simpa using h2)
        | succ k => exact Or.inr ⟨k, v, by simpa using h1, by rw [h2]; congr 1; omega⟩
/-- what stands before i and reaches over it goes -/
def gx (i : Nat) (ls : List (Option Value)) : List (Option Value) := match i with
  | 0 => ls
  | j + 1 => match ls[j]? with
    | some (some (.long _)) => ls.set j none
    | some (some (.double _)) => ls.set j none
    | _ => ls
def gs1 (i : Nat) (v : Value) (ls : List (Option Value)) : List (Option Value) := (gx i ls).set i (some v)
def gs2 (i : Nat) (v : Value) (ls : List (Option Value)) : List (Option Value) := ((gx i ls).set i (some v)).set (i + 1) none
theorem gx_in {i k : Nat} {ls : List (Option Value)} {u : Value} (h : (gx i ls)[k]? = some (some u)) : ls[k]? = some (some u) ∧ ¬ (k + 1 = i ∧ u.category = 2) := by
  cases i with
  | zero => exact ⟨h, fun z => by omega⟩
  | succ j =>
    by_cases hk : k = j
    · subst hk
      unfold gx at h
      dsimp only at h
      split at h
      · rw [List.getElem?_set] at h
        split at h
        · split at h
          · cases h
          · cases h
        · omega
      · rw [List.getElem?_set] at h
        split at h
        · split at h
          · cases h
          · cases h
        · omega
      · rename_i h1 h2
        refine ⟨h, fun z => ?_⟩
        cases u with
        | long x => exact h1 x h
        | double x => exact h2 x h
        | _ => exact absurd z.2 (by simp [Value.category])
    · refine ⟨?_, fun z => hk (by omega)⟩
      unfold gx at h
      dsimp only at h
      have hk' : ¬ j = k := fun z => hk z.symm
      split at h
      · rw [List.getElem?_set, if_neg hk'] at h; exact h
      · rw [List.getElem?_set, if_neg hk'] at h; exact h
      · exact h
/-- further locals, known by their places alone, that a store at i leaves as they are -/
def gXo (Y : List (Nat × Value)) (i : Nat) : Prop := ∀ q ∈ Y, q.1 ≠ i ∧ q.1 ≠ i + 1 ∧ q.2.category ≠ 2
theorem gXo_nil (i : Nat) : gXo [] i := fun _ h => nomatch h
theorem gXo_1 {Y : List (Nat × Value)} {i : Nat} (h : gXo Y i) {q : Nat × Value} (hq : q ∈ Y) : (!(q.1 == i) && !(q.1 + 1 == i && q.2.category == 2)) = true := by
  obtain ⟨h1, h2, h3⟩ := h q hq
  simp [h1, h3]
theorem gXo_2 {Y : List (Nat × Value)} {i : Nat} (h : gXo Y i) {q : Nat × Value} (hq : q ∈ Y) : (!(q.1 == i) && (!(q.1 == i + 1) && !(q.1 + 1 == i && q.2.category == 2))) = true := by
  obtain ⟨h1, h2, h3⟩ := h q hq
  simp [h1, h2, h3]
theorem gs1_has {κ : Nat → Nat} {lsr : Array Slot} {nL i : Nat} {v : Value} {ls : List (Option Value)} {Y : List (Nat × Value)} (hY : gXo Y i) (h : lv_has lsr nL ((i, gv κ v) :: (Y ++ gas κ 0 ls).filter (fun q => !(q.1 == i) && !(q.1 + 1 == i && q.2.category == 2)))) : lv_has lsr nL (Y ++ gas κ 0 (gs1 i v ls)) := by
  refine ⟨h.1, h.2.1, fun q hq => h.2.2 q ?_⟩
  rcases List.mem_append.mp hq with hq | hq
  · exact List.mem_cons.mpr (Or.inr (List.mem_filter.mpr ⟨List.mem_append_left _ hq, gXo_1 hY hq⟩))
  obtain ⟨k, u, h1, rfl⟩ := (gas_mem κ _ _ _).mp hq
  unfold gs1 at h1
  rw [List.getElem?_set] at h1
  by_cases hk : i = k
  · subst hk
    rw [if_pos rfl] at h1
    split at h1
    · cases h1
      exact List.mem_cons.mpr (Or.inl (by simp))
    · cases h1
  · rw [if_neg hk] at h1
    obtain ⟨h2, h3⟩ := gx_in h1
    refine List.mem_cons.mpr (Or.inr (List.mem_filter.mpr ⟨List.mem_append_right _ ((gas_mem κ _ _ _).mpr ⟨k, u, h2, rfl⟩), ?_⟩))
    have hki : ¬ (0 + k) = i := fun z => hk (by omega)
    simp only [gv_cat, Bool.and_eq_true, Bool.not_eq_true', beq_eq_false_iff_ne, ne_eq, Bool.and_eq_false_iff]
    refine ⟨hki, ?_⟩
    by_cases hc : 0 + k + 1 = i
    · exact Or.inr (fun z => h3 ⟨by omega, z⟩)
    · exact Or.inl hc
theorem gs2_has {κ : Nat → Nat} {lsr : Array Slot} {nL i : Nat} {v : Value} {ls : List (Option Value)} {Y : List (Nat × Value)} (hY : gXo Y i) (h : lv_has lsr nL ((i, gv κ v) :: (Y ++ gas κ 0 ls).filter (fun q => !(q.1 == i) && (!(q.1 == i + 1) && !(q.1 + 1 == i && q.2.category == 2))))) : lv_has lsr nL (Y ++ gas κ 0 (gs2 i v ls)) := by
  refine ⟨h.1, h.2.1, fun q hq => h.2.2 q ?_⟩
  rcases List.mem_append.mp hq with hq | hq
  · exact List.mem_cons.mpr (Or.inr (List.mem_filter.mpr ⟨List.mem_append_left _ hq, gXo_2 hY hq⟩))
  obtain ⟨k, u, h1, rfl⟩ := (gas_mem κ _ _ _).mp hq
  unfold gs2 at h1
  rw [List.getElem?_set] at h1
  by_cases hk2 : i + 1 = k
  · rw [if_pos hk2] at h1
    split at h1
    · cases h1
    · cases h1
  · rw [if_neg hk2, List.getElem?_set] at h1
    by_cases hk : i = k
    · subst hk
      rw [if_pos rfl] at h1
      split at h1
      · cases h1
        exact List.mem_cons.mpr (Or.inl (by simp))
      · cases h1
    · rw [if_neg hk] at h1
      obtain ⟨h2, h3⟩ := gx_in h1
      refine List.mem_cons.mpr (Or.inr (List.mem_filter.mpr ⟨List.mem_append_right _ ((gas_mem κ _ _ _).mpr ⟨k, u, h2, rfl⟩), ?_⟩))
      have hki : ¬ (0 + k) = i := fun z => hk (by omega)
      have hki2 : ¬ (0 + k) = i + 1 := fun z => hk2 (by omega)
      simp only [gv_cat, Bool.and_eq_true, Bool.not_eq_true', beq_eq_false_iff_ne, ne_eq, Bool.and_eq_false_iff]
      refine ⟨hki, hki2, ?_⟩
      by_cases hc : 0 + k + 1 = i
      · exact Or.inr (fun z => h3 ⟨by omega, z⟩)
      · exact Or.inl hc
theorem gas_at {κ : Nat → Nat} {lsr : Array Slot} {nL i : Nat} {v : Value} {ls : List (Option Value)} {Y : List (Nat × Value)} (h : lv_has lsr nL (Y ++ gas κ 0 ls)) (hl : ls[i]? = some (some v)) : lsr[i]? = some (.val (gv κ v)) :=
  h.2.2 (i, gv κ v) (List.mem_append_right _ ((gas_mem κ _ _ _).mpr ⟨i, v, hl, by simp⟩))
