theorem mem_idx {is : List Nat} {L : List Cond} (h : is.map (fun i => tables_1[i]?) = L.map some) : ∀ w ∈ L, w ∈ tables_1 := by
  intro w hw
  have h1 : some w ∈ is.map (fun i => tables_1[i]?) := by rw [h]; exact List.mem_map_of_mem hw
  obtain ⟨i, -, hi⟩ := List.mem_map.mp h1
  exact List.mem_of_getElem? hi
theorem oa_131 : ∀ w ∈ Bundle.ownAtoms "GameNotation" 131 "java/lang/IndexOutOfBoundsException" ["java/lang/RuntimeException", "java/lang/Exception"], w ∈ gw ∨ w ∈ ([.laysStatic Bundle.tN "UNASSIGNED_STACK" Bundle.steD, .laysStatic Bundle.tN "SUPPRESSED_SENTINEL" Bundle.listD, .isRef (.static Bundle.tN "UNASSIGNED_STACK" Bundle.steD), .isRef (.static Bundle.tN "SUPPRESSED_SENTINEL" Bundle.listD)] : List Cond) ∨ w ∈ thW := by
  intro w hw
  cases hg : goodWord w with
  | true => exact Or.inl (gw_t (mem_idx (is := [14, 717, 726, 729, 732, 734, 718, 719, 25, 26, 720, 725, 730, 750, 707, 751, 709, 752, 711, 721, 723, 713, 746, 747, 749, 713, 737, 738, 739, 740, 740, 741, 742, 743, 743, 744, 745, 746, 736, 696, 704, 705, 706, 708, 710, 712, 716, 715, 714]) (L := (Bundle.ownAtoms "GameNotation" 131 "java/lang/IndexOutOfBoundsException" ["java/lang/RuntimeException", "java/lang/Exception"]).filter goodWord) (by decide +kernel) w (List.mem_filter.mpr ⟨hw, hg⟩)) hg)
  | false =>
    have h9 : ∀ w ∈ (Bundle.ownAtoms "GameNotation" 131 "java/lang/IndexOutOfBoundsException" ["java/lang/RuntimeException", "java/lang/Exception"]).filter (fun w => !goodWord w), w ∈ ([.laysStatic Bundle.tN "UNASSIGNED_STACK" Bundle.steD, .laysStatic Bundle.tN "SUPPRESSED_SENTINEL" Bundle.listD, .isRef (.static Bundle.tN "UNASSIGNED_STACK" Bundle.steD), .isRef (.static Bundle.tN "SUPPRESSED_SENTINEL" Bundle.listD)] : List Cond) ∨ w ∈ thW := by decide +kernel
    exact Or.inr (h9 w (List.mem_filter.mpr ⟨hw, by rw [hg]; rfl⟩))
theorem oa_163 : ∀ w ∈ Bundle.ownAtoms "GameNotation" 163 "java/lang/IllegalArgumentException" ["java/lang/RuntimeException", "java/lang/Exception"], w ∈ gw ∨ w ∈ ([.laysStatic Bundle.tN "UNASSIGNED_STACK" Bundle.steD, .laysStatic Bundle.tN "SUPPRESSED_SENTINEL" Bundle.listD, .isRef (.static Bundle.tN "UNASSIGNED_STACK" Bundle.steD), .isRef (.static Bundle.tN "SUPPRESSED_SENTINEL" Bundle.listD)] : List Cond) ∨ w ∈ thW := by
  intro w hw
  cases hg : goodWord w with
  | true => exact Or.inl (gw_t (mem_idx (is := [14, 717, 726, 729, 732, 734, 718, 719, 25, 26, 720, 725, 730, 750, 707, 751, 709, 752, 711, 721, 723, 713, 746, 747, 749, 713, 782, 783, 784, 740, 740, 741, 742, 743, 743, 744, 745, 746, 781, 772, 774, 728, 775, 776, 777, 778, 716, 715, 779]) (L := (Bundle.ownAtoms "GameNotation" 163 "java/lang/IllegalArgumentException" ["java/lang/RuntimeException", "java/lang/Exception"]).filter goodWord) (by decide +kernel) w (List.mem_filter.mpr ⟨hw, hg⟩)) hg)
  | false =>
    have h9 : ∀ w ∈ (Bundle.ownAtoms "GameNotation" 163 "java/lang/IllegalArgumentException" ["java/lang/RuntimeException", "java/lang/Exception"]).filter (fun w => !goodWord w), w ∈ ([.laysStatic Bundle.tN "UNASSIGNED_STACK" Bundle.steD, .laysStatic Bundle.tN "SUPPRESSED_SENTINEL" Bundle.listD, .isRef (.static Bundle.tN "UNASSIGNED_STACK" Bundle.steD), .isRef (.static Bundle.tN "SUPPRESSED_SENTINEL" Bundle.listD)] : List Cond) ∨ w ∈ thW := by decide +kernel
    exact Or.inr (h9 w (List.mem_filter.mpr ⟨hw, by rw [hg]; rfl⟩))
