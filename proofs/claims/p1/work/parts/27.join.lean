theorem zGs_cut {op : Nat} {n : Nat} (hn : (zGs op).length = n) (h : ∀ i, i < n → zlawM (((zGs op).drop i).take 1) = true) : ∀ G ∈ zGs op, zCaseG G := by
  intro G hG
  obtain ⟨i, hi⟩ := List.getElem?_of_mem hG
  have hlt : i < n := hn ▸ (List.getElem?_eq_some_iff.mp hi).1
  refine zlawM_ok (h i hlt) G ?_
  refine List.mem_of_getElem? (i := 0) ?_
  rw [List.getElem?_take_of_lt (by decide), List.getElem?_drop]
  exact hi
theorem ez_22 : ∀ G ∈ zGs 22, zCaseG G := zGs_cut (n := 3) (by decide +kernel) (fun i hi => by
  match i, hi with
  | 0, _ => exact ev_22_0
  | 1, _ => exact ev_22_1
  | 2, _ => exact ev_22_2
  | n + 3, hi => exact absurd hi (by omega))
theorem ez_14 : ∀ G ∈ zGs 14, zCaseG G := zGs_cut (n := 4) (by decide +kernel) (fun i hi => by
  match i, hi with
  | 0, _ => exact ev_14_0
  | 1, _ => exact ev_14_1
  | 2, _ => exact ev_14_2
  | 3, _ => exact ev_14_3
  | n + 4, hi => exact absurd hi (by omega))
theorem ez_11 : ∀ G ∈ zGs 11, zCaseG G := zGs_cut (n := 6) (by decide +kernel) (fun i hi => by
  match i, hi with
  | 0, _ => exact ev_11_0
  | 1, _ => exact ev_11_1
  | 2, _ => exact ev_11_2
  | 3, _ => exact ev_11_3
  | 4, _ => exact ev_11_4
  | 5, _ => exact ev_11_5
  | n + 6, hi => exact absurd hi (by omega))
theorem ez_13 : ∀ G ∈ zGs 13, zCaseG G := zGs_cut (n := 4) (by decide +kernel) (fun i hi => by
  match i, hi with
  | 0, _ => exact ev_13_0
  | 1, _ => exact ev_13_1
  | 2, _ => exact ev_13_2
  | 3, _ => exact ev_13_3
  | n + 4, hi => exact absurd hi (by omega))
theorem zops (u : Nat) (hu : u < 40) : ∀ G ∈ zGs u, zCaseG G := by
  match u, hu with
  | 0, _ => exact fun G hG => zlawM_ok ev_a G (List.mem_flatMap.mpr ⟨0, by decide, hG⟩)
  | 1, _ => exact fun G hG => zlawM_ok ev_a G (List.mem_flatMap.mpr ⟨1, by decide, hG⟩)
  | 2, _ => exact zlawM_ok ev_2
  | 3, _ => exact fun G hG => zlawM_ok ev_a G (List.mem_flatMap.mpr ⟨3, by decide, hG⟩)
  | 4, _ => exact fun G hG => zlawM_ok ev_a G (List.mem_flatMap.mpr ⟨4, by decide, hG⟩)
  | 5, _ => exact fun G hG => zlawM_ok ev_a G (List.mem_flatMap.mpr ⟨5, by decide, hG⟩)
  | 6, _ => exact fun G hG => zlawM_ok ev_a G (List.mem_flatMap.mpr ⟨6, by decide, hG⟩)
  | 7, _ => exact fun G hG => zlawM_ok ev_a G (List.mem_flatMap.mpr ⟨7, by decide, hG⟩)
  | 8, _ => exact fun G hG => zlawM_ok ev_a G (List.mem_flatMap.mpr ⟨8, by decide, hG⟩)
  | 9, _ => exact fun G hG => zlawM_ok ev_a G (List.mem_flatMap.mpr ⟨9, by decide, hG⟩)
  | 10, _ => exact fun G hG => zlawM_ok ev_a G (List.mem_flatMap.mpr ⟨10, by decide, hG⟩)
  | 11, _ => exact ez_11
  | 12, _ => exact fun G hG => zlawM_ok ev_b G (List.mem_flatMap.mpr ⟨12, by decide, hG⟩)
  | 13, _ => exact ez_13
  | 14, _ => exact ez_14
  | 15, _ => exact zlawM_ok ev_15
  | 16, _ => exact fun G hG => zlawM_ok ev_b G (List.mem_flatMap.mpr ⟨16, by decide, hG⟩)
  | 17, _ => exact fun G hG => zlawM_ok ev_b G (List.mem_flatMap.mpr ⟨17, by decide, hG⟩)
  | 18, _ => exact fun G hG => zlawM_ok ev_b G (List.mem_flatMap.mpr ⟨18, by decide, hG⟩)
  | 19, _ => exact zlawM_ok ev_19
  | 20, _ => exact zlawM_ok ev_20
  | 21, _ => exact zlawM_ok ev_21
  | 22, _ => exact ez_22
  | 23, _ => exact fun G hG => zlawM_ok ev_b G (List.mem_flatMap.mpr ⟨23, by decide, hG⟩)
  | 24, _ => exact fun G hG => zlawM_ok ev_b G (List.mem_flatMap.mpr ⟨24, by decide, hG⟩)
  | 25, _ => exact fun G hG => zlawM_ok ev_b G (List.mem_flatMap.mpr ⟨25, by decide, hG⟩)
  | 26, _ => exact fun G hG => zlawM_ok ev_b G (List.mem_flatMap.mpr ⟨26, by decide, hG⟩)
  | 27, _ => exact fun G hG => zlawM_ok ev_c G (List.mem_flatMap.mpr ⟨27, by decide, hG⟩)
  | 28, _ => exact fun G hG => zlawM_ok ev_c G (List.mem_flatMap.mpr ⟨28, by decide, hG⟩)
  | 29, _ => exact fun G hG => zlawM_ok ev_c G (List.mem_flatMap.mpr ⟨29, by decide, hG⟩)
  | 30, _ => exact zlawM_ok ev_30
  | 31, _ => exact zlawM_ok ev_31
  | 32, _ => exact fun G hG => zlawM_ok ev_c G (List.mem_flatMap.mpr ⟨32, by decide, hG⟩)
  | 33, _ => exact fun G hG => zlawM_ok ev_c G (List.mem_flatMap.mpr ⟨33, by decide, hG⟩)
  | 34, _ => exact fun G hG => zlawM_ok ev_c G (List.mem_flatMap.mpr ⟨34, by decide, hG⟩)
  | 35, _ => exact fun G hG => zlawM_ok ev_c G (List.mem_flatMap.mpr ⟨35, by decide, hG⟩)
  | 36, _ => exact fun G hG => zlawM_ok ev_c G (List.mem_flatMap.mpr ⟨36, by decide, hG⟩)
  | 37, _ => exact fun G hG => zlawM_ok ev_c G (List.mem_flatMap.mpr ⟨37, by decide, hG⟩)
  | 38, _ => exact fun G hG => zlawM_ok ev_c G (List.mem_flatMap.mpr ⟨38, by decide, hG⟩)
  | 39, _ => exact fun G hG => zlawM_ok ev_c G (List.mem_flatMap.mpr ⟨39, by decide, hG⟩)
  | n + 40, hu => exact absurd hu (by omega)
