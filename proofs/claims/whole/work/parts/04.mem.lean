def entI : List (Nat × Nat × Nat × Nat) := (List.range NO).flatMap fun o => match shp o with
  | .inl q => (List.range q.2.length).flatMap fun j => match q.2[j]? with
    | some (0, c, k) => [(c, k, o, j)]
    | some (2, c, k) => [(c, k, o, j)]
    | _ => []
  | .inr (0, _, c, k) => [(c, k, o, 0)]
  | .inr (2, _, c, k) => [(c, k, o, 0)]
  | _ => []
def entJ : List (Nat × Nat × Nat × Nat) := (List.range NO).flatMap fun o => match shp o with
  | .inl q => (List.range q.2.length).flatMap fun j => match q.2[j]? with
    | some (1, c, k) => [(c, k, o, j)]
    | _ => []
  | .inr (1, _, c, k) => [(c, k, o, 0)]
  | _ => []
def entR : List (Nat × Nat × Nat × Nat) := (List.range NO).flatMap fun o => match shp o with
  | .inl q => (List.range q.2.length).flatMap fun j => match q.2[j]? with
    | some (5, c, k) => [(c, k, o, j)]
    | _ => []
  | .inr (4, _, c, k) => [(c, k, o, 0)]
  | _ => []
def own (l : List (Nat × Nat × Nat × Nat)) (c k : Nat) : Option (Nat × Nat) := (l.find? (fun q => q.1 == c && q.2.1 == k)).map (fun q => (q.2.2.1, q.2.2.2))
set_option maxRecDepth 100000 in
theorem own_I : entI.all (fun q => own entI q.1 q.2.1 == some (q.2.2.1, q.2.2.2)) = true := by decide +kernel
set_option maxRecDepth 100000 in
theorem own_J : entJ.all (fun q => own entJ q.1 q.2.1 == some (q.2.2.1, q.2.2.2)) = true := by decide +kernel
set_option maxRecDepth 100000 in
theorem own_R : entR.all (fun q => own entR q.1 q.2.1 == some (q.2.2.1, q.2.2.2)) = true := by decide +kernel
set_option maxRecDepth 100000 in
/-- kinds that there are -/
theorem knd_ok : ((List.range NO).all fun o => match shp o with
  | .inl q => q.2.all (fun f => f.1 == 0 || f.1 == 1 || f.1 == 2 || f.1 == 3 || f.1 == 5)
  | .inr q => q.1 == 0 || q.1 == 1 || q.1 == 2 || q.1 == 3 || q.1 == 4 || q.1 == 5 || q.1 == 6) = true := by decide +kernel
theorem own_of {l : List (Nat × Nat × Nat × Nat)} (h : l.all (fun q => own l q.1 q.2.1 == some (q.2.2.1, q.2.2.2)) = true) {c k o j : Nat} (hm : (c, k, o, j) ∈ l) : own l c k = some (o, j) := by
  have := List.all_eq_true.mp h _ hm
  simpa using this
theorem ownI_f {o ci j kd c k : Nat} {fl : List (Nat × Nat × Nat)} (ho : o < NO) (hs : shp o = .inl (ci, fl)) (hj : fl[j]? = some (kd, c, k)) (hk : kd = 0 ∨ kd = 2) : own entI c k = some (o, j) := by
  refine own_of own_I (List.mem_flatMap.mpr ⟨o, List.mem_range.mpr ho, ?_⟩)
  rw [hs]
  refine List.mem_flatMap.mpr ⟨j, List.mem_range.mpr (List.getElem?_eq_some_iff.mp hj).1, ?_⟩
  dsimp only
  rw [hj]
  rcases hk with rfl | rfl <;> exact List.mem_singleton.mpr rfl
theorem ownI_a {o kd n c k : Nat} (ho : o < NO) (hs : shp o = .inr (kd, n, c, k)) (hk : kd = 0 ∨ kd = 2) : own entI c k = some (o, 0) := by
  refine own_of own_I (List.mem_flatMap.mpr ⟨o, List.mem_range.mpr ho, ?_⟩)
  rw [hs]
  rcases hk with rfl | rfl <;> exact List.mem_singleton.mpr rfl
theorem ownJ_f {o ci j c k : Nat} {fl : List (Nat × Nat × Nat)} (ho : o < NO) (hs : shp o = .inl (ci, fl)) (hj : fl[j]? = some (1, c, k)) : own entJ c k = some (o, j) := by
  refine own_of own_J (List.mem_flatMap.mpr ⟨o, List.mem_range.mpr ho, ?_⟩)
  rw [hs]
  refine List.mem_flatMap.mpr ⟨j, List.mem_range.mpr (List.getElem?_eq_some_iff.mp hj).1, ?_⟩
  dsimp only
  rw [hj]
  exact List.mem_singleton.mpr rfl
theorem ownJ_a {o n c k : Nat} (ho : o < NO) (hs : shp o = .inr (1, n, c, k)) : own entJ c k = some (o, 0) := by
  refine own_of own_J (List.mem_flatMap.mpr ⟨o, List.mem_range.mpr ho, ?_⟩)
  rw [hs]
  exact List.mem_singleton.mpr rfl
theorem ownR_f {o ci j c k : Nat} {fl : List (Nat × Nat × Nat)} (ho : o < NO) (hs : shp o = .inl (ci, fl)) (hj : fl[j]? = some (5, c, k)) : own entR c k = some (o, j) := by
  refine own_of own_R (List.mem_flatMap.mpr ⟨o, List.mem_range.mpr ho, ?_⟩)
  rw [hs]
  refine List.mem_flatMap.mpr ⟨j, List.mem_range.mpr (List.getElem?_eq_some_iff.mp hj).1, ?_⟩
  dsimp only
  rw [hj]
  exact List.mem_singleton.mpr rfl
theorem ownR_a {o n c k : Nat} (ho : o < NO) (hs : shp o = .inr (4, n, c, k)) : own entR c k = some (o, 0) := by
  refine own_of own_R (List.mem_flatMap.mpr ⟨o, List.mem_range.mpr ho, ?_⟩)
  rw [hs]
  exact List.mem_singleton.mpr rfl
theorem knd_f {o ci j kd c k : Nat} {fl : List (Nat × Nat × Nat)} (ho : o < NO) (hs : shp o = .inl (ci, fl)) (hj : fl[j]? = some (kd, c, k)) : kd = 0 ∨ kd = 1 ∨ kd = 2 ∨ kd = 3 ∨ kd = 5 := by
  have h := List.all_eq_true.mp knd_ok o (List.mem_range.mpr ho)
  rw [hs] at h
  have h2 := List.all_eq_true.mp h _ (List.mem_of_getElem? hj)
  simp at h2
  omega
theorem knd_a {o kd n c k : Nat} (ho : o < NO) (hs : shp o = .inr (kd, n, c, k)) : kd = 0 ∨ kd = 1 ∨ kd = 2 ∨ kd = 3 ∨ kd = 4 ∨ kd = 5 ∨ kd = 6 := by
  have h := List.all_eq_true.mp knd_ok o (List.mem_range.mpr ho)
  rw [hs] at h
  simp at h
  omega
theorem cel_o {ca : Nat → ClassId} {ad : Nat → Nat} {σ : Mem} {o ci : Nat} {fl : List (Nat × Nat × Nat)} (hs : shp o = .inl (ci, fl)) : cel ca ad σ o = .inr (ci, fl.map (fv ad σ)) := by simp [cel, hs]
theorem cel_a {ca : Nat → ClassId} {ad : Nat → Nat} {σ : Mem} {o : Nat} {q : Nat × Nat × Nat × Nat} (hs : shp o = .inr q) : cel ca ad σ o = .inl (ca (akc q.1), q.2.1, av ad σ q) := by simp [cel, hs]
/-- two memories that are alike but where a cell of the ints, of the longs, of the references is: a cell of another object is the same -/
theorem cel_same {ca : Nat → ClassId} {ad : Nat → Nat} {σ σ' : Mem} {o : Nat} (ho : o < NO)
    (hI : ∀ c k, (own entI c k).map Prod.fst = some o → σ'.1 c k = σ.1 c k) (hJ : ∀ c k, (own entJ c k).map Prod.fst = some o → σ'.2.1 c k = σ.2.1 c k) (hR : ∀ c k, (own entR c k).map Prod.fst = some o → σ'.2.2 c k = σ.2.2 c k) : cel ca ad σ' o = cel ca ad σ o := by
  cases hs : shp o with
  | inl q =>
    obtain ⟨ci, fl⟩ := q
    rw [cel_o hs, cel_o hs]
    congr 2
    refine List.map_congr_left fun q hq => ?_
    obtain ⟨j, hj⟩ := List.getElem?_of_mem hq
    obtain ⟨kd, c, k⟩ := q
    rcases knd_f ho hs hj with rfl | rfl | rfl | rfl | rfl
    · show Value.int _ = Value.int _
      rw [hI c k (by rw [ownI_f ho hs hj (Or.inl rfl)]; rfl)]
    · show Value.long _ = Value.long _
      rw [hJ c k (by rw [ownJ_f ho hs hj]; rfl)]
    · show Value.int _ = Value.int _
      rw [hI c k (by rw [ownI_f ho hs hj (Or.inr rfl)]; rfl)]
    · rfl
    · show va_rf _ = va_rf _
      rw [hR c k (by rw [ownR_f ho hs hj]; rfl)]
  | inr q =>
    obtain ⟨kd, n, c, k⟩ := q
    rw [cel_a hs, cel_a hs]
    congr 3
    rcases knd_a ho hs with rfl | rfl | rfl | rfl | rfl | rfl | rfl
    · show Sum.inl _ = Sum.inl _
      rw [hI c k (by rw [ownI_a ho hs (Or.inl rfl)]; rfl)]
    · show Sum.inr (Sum.inl _) = Sum.inr (Sum.inl _)
      rw [hJ c k (by rw [ownJ_a ho hs]; rfl)]
    · show Sum.inl _ = Sum.inl _
      rw [hI c k (by rw [ownI_a ho hs (Or.inr rfl)]; rfl)]
    · rfl
    · show Sum.inr (Sum.inr (Sum.inr (Sum.inr _))) = Sum.inr (Sum.inr (Sum.inr (Sum.inr _)))
      rw [hR c k (by rw [ownR_a ho hs]; rfl)]
    · rfl
    · rfl
theorem wld_set {ca : Nat → ClassId} {ad : Nat → Nat} {σ σ' : Mem} {o : Nat} {E : va_E} (ho : o < NO) (h0 : cel ca ad σ' o = E) (h1 : ∀ o', o' < NO → o' ≠ o → cel ca ad σ' o' = cel ca ad σ o') : (wld ca ad σ).set o (ad o, E) = wld ca ad σ' := by
  refine List.ext_getElem? fun i => ?_
  by_cases hi : i < NO
  · rw [wld_at hi]
    by_cases he : i = o
    · subst he
      rw [List.getElem?_set_self (by simp [wld, hi]), h0]
    · rw [List.getElem?_set_ne (Ne.symm he), wld_at hi, h1 i hi he]
  · have hl : (wld ca ad σ').length ≤ i := by simp [wld]; omega
    have hl2 : ((wld ca ad σ).set o (ad o, E)).length ≤ i := by simp [wld]; omega
    rw [List.getElem?_eq_none hl, List.getElem?_eq_none hl2]
theorem map_set {α β : Type} {l : List α} {f g : α → β} {j : Nat} {v : β} {q : α} (hq : l[j]? = some q) (hv : g q = v) (hn : ∀ i q', i ≠ j → l[i]? = some q' → g q' = f q') : (l.map f).set j v = l.map g := by
  refine List.ext_getElem? fun i => ?_
  by_cases he : i = j
  · subst he
    rw [List.getElem?_set_self (by simpa using (List.getElem?_eq_some_iff.mp hq).1), List.getElem?_map, hq]
    simp [hv]
  · rw [List.getElem?_set_ne (Ne.symm he), List.getElem?_map, List.getElem?_map]
    cases h : l[i]? with
    | none => rfl
    | some q' => simp [hn i q' he h]
/-- an int field is another number -/
theorem wld_putI {ca : Nat → ClassId} {ad : Nat → Nat} {σ : Mem} {o ci j kd c k : Nat} {fl : List (Nat × Nat × Nat)} {v : Int32} (ho : o < NO) (hs : shp o = .inl (ci, fl)) (hj : fl[j]? = some (kd, c, k)) (hk : kd = 0 ∨ kd = 2) : (wld ca ad σ).set o (ad o, .inr (ci, (fl.map (fv ad σ)).set j (.int v))) = wld ca ad (uI σ c k 0 v) := by
  have hown := ownI_f ho hs hj hk
  refine wld_set ho ?_ fun o' ho' hne => cel_same ho' (fun c' k' h => ?_) (fun _ _ _ => rfl) (fun _ _ _ => rfl)
  · rw [cel_o hs]
    congr 2
    refine (map_set hj ?_ ?_).symm
    · rcases hk with rfl | rfl <;> simp [fv, uI]
    · rintro i ⟨kd', c', k'⟩ hi hq
      rcases knd_f ho hs hq with rfl | rfl | rfl | rfl | rfl
      · have h2 := ownI_f ho hs hq (Or.inl rfl)
        have : ¬ (c' = c ∧ k' = k) := fun h => by rw [h.1, h.2, hown] at h2; exact hi (Prod.mk.inj (Option.some.inj h2)).2.symm
        simp only [fv, uI]
        rw [if_neg (fun h => this ⟨h.1, h.2.1⟩)]
      · rfl
      · have h2 := ownI_f ho hs hq (Or.inr rfl)
        have : ¬ (c' = c ∧ k' = k) := fun h => by rw [h.1, h.2, hown] at h2; exact hi (Prod.mk.inj (Option.some.inj h2)).2.symm
        simp only [fv, uI]
        rw [if_neg (fun h => this ⟨h.1, h.2.1⟩)]
      · rfl
      · rfl
  · funext j'
    have : ¬ (c' = c ∧ k' = k) := fun e => by rw [e.1, e.2, hown] at h; exact hne (Option.some.inj h).symm
    simp only [uI]
    rw [if_neg (fun h => this ⟨h.1, h.2.1⟩)]
theorem wld_putJ {ca : Nat → ClassId} {ad : Nat → Nat} {σ : Mem} {o ci j c k : Nat} {fl : List (Nat × Nat × Nat)} {v : Int64} (ho : o < NO) (hs : shp o = .inl (ci, fl)) (hj : fl[j]? = some (1, c, k)) : (wld ca ad σ).set o (ad o, .inr (ci, (fl.map (fv ad σ)).set j (.long v))) = wld ca ad (uJ σ c k 0 v) := by
  have hown := ownJ_f ho hs hj
  refine wld_set ho ?_ fun o' ho' hne => cel_same ho' (fun _ _ _ => rfl) (fun c' k' h => ?_) (fun _ _ _ => rfl)
  · rw [cel_o hs]
    congr 2
    refine (map_set hj ?_ ?_).symm
    · simp [fv, uJ]
    · rintro i ⟨kd', c', k'⟩ hi hq
      rcases knd_f ho hs hq with rfl | rfl | rfl | rfl | rfl
      · rfl
      · have h2 := ownJ_f ho hs hq
        have : ¬ (c' = c ∧ k' = k) := fun h => by rw [h.1, h.2, hown] at h2; exact hi (Prod.mk.inj (Option.some.inj h2)).2.symm
        simp only [fv, uJ]
        rw [if_neg (fun h => this ⟨h.1, h.2.1⟩)]
      · rfl
      · rfl
      · rfl
  · funext j'
    have : ¬ (c' = c ∧ k' = k) := fun e => by rw [e.1, e.2, hown] at h; exact hne (Option.some.inj h).symm
    simp only [uJ]
    rw [if_neg (fun h => this ⟨h.1, h.2.1⟩)]
theorem wld_putR {ca : Nat → ClassId} {ad : Nat → Nat} {σ : Mem} {o ci j c k x : Nat} {fl : List (Nat × Nat × Nat)} (ho : o < NO) (hs : shp o = .inl (ci, fl)) (hj : fl[j]? = some (5, c, k)) : (wld ca ad σ).set o (ad o, .inr (ci, (fl.map (fv ad σ)).set j (.ref (ad (69 + 4 * x))))) = wld ca ad (uR σ c k 0 (some x)) := by
  have hown := ownR_f ho hs hj
  refine wld_set ho ?_ fun o' ho' hne => cel_same ho' (fun _ _ _ => rfl) (fun _ _ _ => rfl) (fun c' k' h => ?_)
  · rw [cel_o hs]
    congr 2
    refine (map_set hj ?_ ?_).symm
    · simp [fv, uR, va_rf]
    · rintro i ⟨kd', c', k'⟩ hi hq
      rcases knd_f ho hs hq with rfl | rfl | rfl | rfl | rfl
      · rfl
      · rfl
      · rfl
      · rfl
      · have h2 := ownR_f ho hs hq
        have : ¬ (c' = c ∧ k' = k) := fun h => by rw [h.1, h.2, hown] at h2; exact hi (Prod.mk.inj (Option.some.inj h2)).2.symm
        simp only [fv, uR]
        rw [if_neg (fun h => this ⟨h.1, h.2.1⟩)]
  · funext j'
    have : ¬ (c' = c ∧ k' = k) := fun e => by rw [e.1, e.2, hown] at h; exact hne (Option.some.inj h).symm
    simp only [uR]
    rw [if_neg (fun h => this ⟨h.1, h.2.1⟩)]
/-- an array of ints (of booleans) is another one -/
theorem wld_arrI {ca : Nat → ClassId} {ad : Nat → Nat} {σ : Mem} {o kd n c k : Nat} {f : Nat → Int32} (ho : o < NO) (hs : shp o = .inr (kd, n, c, k)) (hk : kd = 0 ∨ kd = 2) : (wld ca ad σ).set o (ad o, .inl (ca (akc kd), n, .inl f)) = wld ca ad (aI σ c k f) := by
  have hown := ownI_a ho hs hk
  refine wld_set ho ?_ fun o' ho' hne => cel_same ho' (fun c' k' h => ?_) (fun _ _ _ => rfl) (fun _ _ _ => rfl)
  · rw [cel_a hs]
    congr 3
    rcases hk with rfl | rfl <;> simp [av, aI]
  · funext j'
    have : ¬ (c' = c ∧ k' = k) := fun e => by rw [e.1, e.2, hown] at h; exact hne (Option.some.inj h).symm
    simp only [aI]
    rw [if_neg this]
theorem wld_arrJ {ca : Nat → ClassId} {ad : Nat → Nat} {σ : Mem} {o n c k : Nat} {f : Nat → Int64} (ho : o < NO) (hs : shp o = .inr (1, n, c, k)) : (wld ca ad σ).set o (ad o, .inl (ca 1, n, .inr (.inl f))) = wld ca ad (aJ σ c k f) := by
  have hown := ownJ_a ho hs
  refine wld_set ho ?_ fun o' ho' hne => cel_same ho' (fun _ _ _ => rfl) (fun c' k' h => ?_) (fun _ _ _ => rfl)
  · rw [cel_a hs]
    congr 3
    simp [av, aJ]
  · funext j'
    have : ¬ (c' = c ∧ k' = k) := fun e => by rw [e.1, e.2, hown] at h; exact hne (Option.some.inj h).symm
    simp only [aJ]
    rw [if_neg this]
theorem aI_upd {σ : Mem} {c k j : Nat} {v : Int32} : aI σ c k (upd (σ.1 c k) j v) = uI σ c k j v := by
  simp only [aI, uI, Prod.mk.injEq, and_true]
  funext c' k' j'
  by_cases h : c' = c ∧ k' = k
  · obtain ⟨rfl, rfl⟩ := h
    by_cases hj : j' = j <;> simp [upd, hj]
  · rw [if_neg h, if_neg (fun h' => h ⟨h'.1, h'.2.1⟩)]
theorem aJ_upd {σ : Mem} {c k j : Nat} {v : Int64} : aJ σ c k (vp_updL (σ.2.1 c k) j v) = uJ σ c k j v := by
  simp only [aJ, uJ, Prod.mk.injEq, and_true, true_and]
  funext c' k' j'
  by_cases h : c' = c ∧ k' = k
  · obtain ⟨rfl, rfl⟩ := h
    by_cases hj : j' = j <;> simp [vp_updL, hj]
  · rw [if_neg h, if_neg (fun h' => h ⟨h'.1, h'.2.1⟩)]
theorem wld_arrR {ca : Nat → ClassId} {ad : Nat → Nat} {σ : Mem} {o n c k j x : Nat} (ho : o < NO) (hs : shp o = .inr (4, n, c, k)) : (wld ca ad σ).set o (ad o, .inl (ca 4, n, .inr (.inr (.inr (.inr (va_up (fun j => (σ.2.2 c k j).map (fun x => ad (28 + x))) j (some (ad (28 + x))))))))) = wld ca ad (uR σ c k j (some x)) := by
  have hown := ownR_a ho hs
  refine wld_set ho ?_ fun o' ho' hne => cel_same ho' (fun _ _ _ => rfl) (fun _ _ _ => rfl) (fun c' k' h => ?_)
  · rw [cel_a hs]
    congr 3
    simp only [av, uR]
    congr 4
    funext j'
    by_cases hj : j' = j <;> simp [va_up, hj]
  · funext j'
    have : ¬ (c' = c ∧ k' = k) := fun e => by rw [e.1, e.2, hown] at h; exact hne (Option.some.inj h).symm
    simp only [uR]
    rw [if_neg (fun h => this ⟨h.1, h.2.1⟩)]
