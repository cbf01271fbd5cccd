/-! the law's world: the class's cells, then the reference's; what holds between two calls -/
theorem fm_of_map {α β : Type} {f : α → Option β} : ∀ {l : List α} {k : List β}, l.map f = k.map some → l.filterMap f = k
  | [], [], _ => rfl
  | a :: l, b :: k, h => by
    simp only [List.map_cons, List.cons.injEq] at h
    rw [List.filterMap_cons_some h.1, fm_of_map h.2]
  | [], b :: k, h => by simp at h
  | a :: l, [], h => by simp at h
def pmS (i0 i1 i2 i3 : Nat) : Prop := (i0 = 0 ∧ i1 = 1 ∧ i2 = 2 ∧ i3 = 3) ∨ (i0 = 0 ∧ i1 = 2 ∧ i2 = 1 ∧ i3 = 3) ∨ (i0 = 0 ∧ i1 = 3 ∧ i2 = 1 ∧ i3 = 2) ∨ (i0 = 1 ∧ i1 = 0 ∧ i2 = 2 ∧ i3 = 3) ∨ (i0 = 1 ∧ i1 = 2 ∧ i2 = 0 ∧ i3 = 3) ∨ (i0 = 1 ∧ i1 = 3 ∧ i2 = 0 ∧ i3 = 2) ∨ (i0 = 2 ∧ i1 = 0 ∧ i2 = 1 ∧ i3 = 3) ∨ (i0 = 2 ∧ i1 = 1 ∧ i2 = 0 ∧ i3 = 3) ∨ (i0 = 2 ∧ i1 = 3 ∧ i2 = 0 ∧ i3 = 1) ∨ (i0 = 3 ∧ i1 = 0 ∧ i2 = 1 ∧ i3 = 2) ∨ (i0 = 3 ∧ i1 = 1 ∧ i2 = 0 ∧ i3 = 2) ∨ (i0 = 3 ∧ i1 = 2 ∧ i2 = 0 ∧ i3 = 1)
theorem pm0 : pmS 0 1 2 3 := Or.inl ⟨rfl, rfl, rfl, rfl⟩
theorem pm1 {s : Nat} (hs : s < 4) : ∃ i1 i2 i3, pmS s i1 i2 i3 ∧ i1 ≠ s ∧ i2 ≠ s ∧ i3 ≠ s := by
  rcases (show s = 0 ∨ s = 1 ∨ s = 2 ∨ s = 3 by omega) with rfl | rfl | rfl | rfl
  · exact ⟨1, 2, 3, by unfold pmS; decide, by decide, by decide, by decide⟩
  · exact ⟨0, 2, 3, by unfold pmS; decide, by decide, by decide, by decide⟩
  · exact ⟨0, 1, 3, by unfold pmS; decide, by decide, by decide, by decide⟩
  · exact ⟨0, 1, 2, by unfold pmS; decide, by decide, by decide, by decide⟩
theorem pm2 {s g : Nat} (hs : s < 4) (hg : g < 4) (h : s ≠ g) : ∃ i2 i3, pmS s g i2 i3 ∧ i2 ≠ g ∧ i3 ≠ g := by
  rcases (show (s = 0 ∧ g = 1) ∨ (s = 0 ∧ g = 2) ∨ (s = 0 ∧ g = 3) ∨ (s = 1 ∧ g = 0) ∨ (s = 1 ∧ g = 2) ∨ (s = 1 ∧ g = 3) ∨ (s = 2 ∧ g = 0) ∨ (s = 2 ∧ g = 1) ∨ (s = 2 ∧ g = 3) ∨ (s = 3 ∧ g = 0) ∨ (s = 3 ∧ g = 1) ∨ (s = 3 ∧ g = 2) by omega) with ⟨rfl, rfl⟩ | ⟨rfl, rfl⟩ | ⟨rfl, rfl⟩ | ⟨rfl, rfl⟩ | ⟨rfl, rfl⟩ | ⟨rfl, rfl⟩ | ⟨rfl, rfl⟩ | ⟨rfl, rfl⟩ | ⟨rfl, rfl⟩ | ⟨rfl, rfl⟩ | ⟨rfl, rfl⟩ | ⟨rfl, rfl⟩
  · exact ⟨2, 3, by unfold pmS; decide, by decide, by decide⟩
  · exact ⟨1, 3, by unfold pmS; decide, by decide, by decide⟩
  · exact ⟨1, 2, by unfold pmS; decide, by decide, by decide⟩
  · exact ⟨2, 3, by unfold pmS; decide, by decide, by decide⟩
  · exact ⟨0, 3, by unfold pmS; decide, by decide, by decide⟩
  · exact ⟨0, 2, by unfold pmS; decide, by decide, by decide⟩
  · exact ⟨1, 3, by unfold pmS; decide, by decide, by decide⟩
  · exact ⟨0, 3, by unfold pmS; decide, by decide, by decide⟩
  · exact ⟨0, 1, by unfold pmS; decide, by decide, by decide⟩
  · exact ⟨1, 2, by unfold pmS; decide, by decide, by decide⟩
  · exact ⟨0, 2, by unfold pmS; decide, by decide, by decide⟩
  · exact ⟨0, 1, by unfold pmS; decide, by decide, by decide⟩
section PMA
variable {D : va_G} {cl : List vw_C} {A : Nat → Prop} {H : Heap} {c0 c1 c2 c3 c4 c5 c6 c7 c8 c9 c10 c11 c12 c13 c14 c15 c16 c17 c18 c19 c20 c21 c22 c23 y0 y1 y2 y3 y4 y5 y6 y7 y8 : Nat × va_E} {cf df : Nat → Nat × va_E}
set_option maxHeartbeats 4000000 in
set_option maxRecDepth 100000 in
theorem pa_P {i0 i1 i2 i3 : Nat} (hp : pmS i0 i1 i2 i3) (hP : va_P D cl [c0, c1, c2, c3, c4, c5, c6, c7, c8, c9, c10, c11, c12, c13, c14, c15, c16, c17, c18, c19, c20, c21, c22, c23, cf 0, df 0, cf 1, df 1, cf 2, df 2, cf 3, df 3, y0, y1, y2, y3, y4, y5, y6, y7, y8] H) : va_P D cl [c0, c1, c2, c3, c4, c5, c6, c7, c8, c9, c10, c11, c12, c13, c14, c15, c16, c17, c18, c19, c20, c21, c22, c23, cf i0, df i0, cf i1, df i1, cf i2, df i2, cf i3, df i3, y0, y1, y2, y3, y4, y5, y6, y7, y8] H := by
  rcases hp with ⟨rfl, rfl, rfl, rfl⟩ | ⟨rfl, rfl, rfl, rfl⟩ | ⟨rfl, rfl, rfl, rfl⟩ | ⟨rfl, rfl, rfl, rfl⟩ | ⟨rfl, rfl, rfl, rfl⟩ | ⟨rfl, rfl, rfl, rfl⟩ | ⟨rfl, rfl, rfl, rfl⟩ | ⟨rfl, rfl, rfl, rfl⟩ | ⟨rfl, rfl, rfl, rfl⟩ | ⟨rfl, rfl, rfl, rfl⟩ | ⟨rfl, rfl, rfl, rfl⟩ | ⟨rfl, rfl, rfl, rfl⟩
  · exact hP.sub [0, 1, 2, 3, 4, 5, 6, 7, 8, 9, 10, 11, 12, 13, 14, 15, 16, 17, 18, 19, 20, 21, 22, 23, 24, 25, 26, 27, 28, 29, 30, 31, 32, 33, 34, 35, 36, 37, 38, 39, 40] rfl
  · exact hP.sub [0, 1, 2, 3, 4, 5, 6, 7, 8, 9, 10, 11, 12, 13, 14, 15, 16, 17, 18, 19, 20, 21, 22, 23, 24, 25, 28, 29, 26, 27, 30, 31, 32, 33, 34, 35, 36, 37, 38, 39, 40] rfl
  · exact hP.sub [0, 1, 2, 3, 4, 5, 6, 7, 8, 9, 10, 11, 12, 13, 14, 15, 16, 17, 18, 19, 20, 21, 22, 23, 24, 25, 30, 31, 26, 27, 28, 29, 32, 33, 34, 35, 36, 37, 38, 39, 40] rfl
  · exact hP.sub [0, 1, 2, 3, 4, 5, 6, 7, 8, 9, 10, 11, 12, 13, 14, 15, 16, 17, 18, 19, 20, 21, 22, 23, 26, 27, 24, 25, 28, 29, 30, 31, 32, 33, 34, 35, 36, 37, 38, 39, 40] rfl
  · exact hP.sub [0, 1, 2, 3, 4, 5, 6, 7, 8, 9, 10, 11, 12, 13, 14, 15, 16, 17, 18, 19, 20, 21, 22, 23, 26, 27, 28, 29, 24, 25, 30, 31, 32, 33, 34, 35, 36, 37, 38, 39, 40] rfl
  · exact hP.sub [0, 1, 2, 3, 4, 5, 6, 7, 8, 9, 10, 11, 12, 13, 14, 15, 16, 17, 18, 19, 20, 21, 22, 23, 26, 27, 30, 31, 24, 25, 28, 29, 32, 33, 34, 35, 36, 37, 38, 39, 40] rfl
  · exact hP.sub [0, 1, 2, 3, 4, 5, 6, 7, 8, 9, 10, 11, 12, 13, 14, 15, 16, 17, 18, 19, 20, 21, 22, 23, 28, 29, 24, 25, 26, 27, 30, 31, 32, 33, 34, 35, 36, 37, 38, 39, 40] rfl
  · exact hP.sub [0, 1, 2, 3, 4, 5, 6, 7, 8, 9, 10, 11, 12, 13, 14, 15, 16, 17, 18, 19, 20, 21, 22, 23, 28, 29, 26, 27, 24, 25, 30, 31, 32, 33, 34, 35, 36, 37, 38, 39, 40] rfl
  · exact hP.sub [0, 1, 2, 3, 4, 5, 6, 7, 8, 9, 10, 11, 12, 13, 14, 15, 16, 17, 18, 19, 20, 21, 22, 23, 28, 29, 30, 31, 24, 25, 26, 27, 32, 33, 34, 35, 36, 37, 38, 39, 40] rfl
  · exact hP.sub [0, 1, 2, 3, 4, 5, 6, 7, 8, 9, 10, 11, 12, 13, 14, 15, 16, 17, 18, 19, 20, 21, 22, 23, 30, 31, 24, 25, 26, 27, 28, 29, 32, 33, 34, 35, 36, 37, 38, 39, 40] rfl
  · exact hP.sub [0, 1, 2, 3, 4, 5, 6, 7, 8, 9, 10, 11, 12, 13, 14, 15, 16, 17, 18, 19, 20, 21, 22, 23, 30, 31, 26, 27, 24, 25, 28, 29, 32, 33, 34, 35, 36, 37, 38, 39, 40] rfl
  · exact hP.sub [0, 1, 2, 3, 4, 5, 6, 7, 8, 9, 10, 11, 12, 13, 14, 15, 16, 17, 18, 19, 20, 21, 22, 23, 30, 31, 28, 29, 24, 25, 26, 27, 32, 33, 34, 35, 36, 37, 38, 39, 40] rfl
set_option maxHeartbeats 4000000 in
set_option maxRecDepth 100000 in
theorem pa_D {i0 i1 i2 i3 : Nat} (hp : pmS i0 i1 i2 i3) (hD : va_D A [c0, c1, c2, c3, c4, c5, c6, c7, c8, c9, c10, c11, c12, c13, c14, c15, c16, c17, c18, c19, c20, c21, c22, c23, cf 0, df 0, cf 1, df 1, cf 2, df 2, cf 3, df 3, y0, y1, y2, y3, y4, y5, y6, y7, y8]) : va_D A [c0, c1, c2, c3, c4, c5, c6, c7, c8, c9, c10, c11, c12, c13, c14, c15, c16, c17, c18, c19, c20, c21, c22, c23, cf i0, df i0, cf i1, df i1, cf i2, df i2, cf i3, df i3, y0, y1, y2, y3, y4, y5, y6, y7, y8] := by
  rcases hp with ⟨rfl, rfl, rfl, rfl⟩ | ⟨rfl, rfl, rfl, rfl⟩ | ⟨rfl, rfl, rfl, rfl⟩ | ⟨rfl, rfl, rfl, rfl⟩ | ⟨rfl, rfl, rfl, rfl⟩ | ⟨rfl, rfl, rfl, rfl⟩ | ⟨rfl, rfl, rfl, rfl⟩ | ⟨rfl, rfl, rfl, rfl⟩ | ⟨rfl, rfl, rfl, rfl⟩ | ⟨rfl, rfl, rfl, rfl⟩ | ⟨rfl, rfl, rfl, rfl⟩ | ⟨rfl, rfl, rfl, rfl⟩
  · exact hD.sub [0, 1, 2, 3, 4, 5, 6, 7, 8, 9, 10, 11, 12, 13, 14, 15, 16, 17, 18, 19, 20, 21, 22, 23, 24, 25, 26, 27, 28, 29, 30, 31, 32, 33, 34, 35, 36, 37, 38, 39, 40] (by decide) rfl
  · exact hD.sub [0, 1, 2, 3, 4, 5, 6, 7, 8, 9, 10, 11, 12, 13, 14, 15, 16, 17, 18, 19, 20, 21, 22, 23, 24, 25, 28, 29, 26, 27, 30, 31, 32, 33, 34, 35, 36, 37, 38, 39, 40] (by decide) rfl
  · exact hD.sub [0, 1, 2, 3, 4, 5, 6, 7, 8, 9, 10, 11, 12, 13, 14, 15, 16, 17, 18, 19, 20, 21, 22, 23, 24, 25, 30, 31, 26, 27, 28, 29, 32, 33, 34, 35, 36, 37, 38, 39, 40] (by decide) rfl
  · exact hD.sub [0, 1, 2, 3, 4, 5, 6, 7, 8, 9, 10, 11, 12, 13, 14, 15, 16, 17, 18, 19, 20, 21, 22, 23, 26, 27, 24, 25, 28, 29, 30, 31, 32, 33, 34, 35, 36, 37, 38, 39, 40] (by decide) rfl
  · exact hD.sub [0, 1, 2, 3, 4, 5, 6, 7, 8, 9, 10, 11, 12, 13, 14, 15, 16, 17, 18, 19, 20, 21, 22, 23, 26, 27, 28, 29, 24, 25, 30, 31, 32, 33, 34, 35, 36, 37, 38, 39, 40] (by decide) rfl
  · exact hD.sub [0, 1, 2, 3, 4, 5, 6, 7, 8, 9, 10, 11, 12, 13, 14, 15, 16, 17, 18, 19, 20, 21, 22, 23, 26, 27, 30, 31, 24, 25, 28, 29, 32, 33, 34, 35, 36, 37, 38, 39, 40] (by decide) rfl
  · exact hD.sub [0, 1, 2, 3, 4, 5, 6, 7, 8, 9, 10, 11, 12, 13, 14, 15, 16, 17, 18, 19, 20, 21, 22, 23, 28, 29, 24, 25, 26, 27, 30, 31, 32, 33, 34, 35, 36, 37, 38, 39, 40] (by decide) rfl
  · exact hD.sub [0, 1, 2, 3, 4, 5, 6, 7, 8, 9, 10, 11, 12, 13, 14, 15, 16, 17, 18, 19, 20, 21, 22, 23, 28, 29, 26, 27, 24, 25, 30, 31, 32, 33, 34, 35, 36, 37, 38, 39, 40] (by decide) rfl
  · exact hD.sub [0, 1, 2, 3, 4, 5, 6, 7, 8, 9, 10, 11, 12, 13, 14, 15, 16, 17, 18, 19, 20, 21, 22, 23, 28, 29, 30, 31, 24, 25, 26, 27, 32, 33, 34, 35, 36, 37, 38, 39, 40] (by decide) rfl
  · exact hD.sub [0, 1, 2, 3, 4, 5, 6, 7, 8, 9, 10, 11, 12, 13, 14, 15, 16, 17, 18, 19, 20, 21, 22, 23, 30, 31, 24, 25, 26, 27, 28, 29, 32, 33, 34, 35, 36, 37, 38, 39, 40] (by decide) rfl
  · exact hD.sub [0, 1, 2, 3, 4, 5, 6, 7, 8, 9, 10, 11, 12, 13, 14, 15, 16, 17, 18, 19, 20, 21, 22, 23, 30, 31, 26, 27, 24, 25, 28, 29, 32, 33, 34, 35, 36, 37, 38, 39, 40] (by decide) rfl
  · exact hD.sub [0, 1, 2, 3, 4, 5, 6, 7, 8, 9, 10, 11, 12, 13, 14, 15, 16, 17, 18, 19, 20, 21, 22, 23, 30, 31, 28, 29, 24, 25, 26, 27, 32, 33, 34, 35, 36, 37, 38, 39, 40] (by decide) rfl
set_option maxHeartbeats 4000000 in
set_option maxRecDepth 100000 in
theorem pa_PB {i0 i1 i2 i3 : Nat} (hp : pmS i0 i1 i2 i3) (hP : va_P D cl [c0, c1, c2, c3, c4, c5, c6, c7, c8, c9, c10, c11, c12, c13, c14, c15, c16, c17, c18, c19, c20, c21, c22, c23, cf i0, df i0, cf i1, df i1, cf i2, df i2, cf i3, df i3, y0, y1, y2, y3, y4, y5, y6, y7, y8] H) : va_P D cl [c0, c1, c2, c3, c4, c5, c6, c7, c8, c9, c10, c11, c12, c13, c14, c15, c16, c17, c18, c19, c20, c21, c22, c23, cf 0, df 0, cf 1, df 1, cf 2, df 2, cf 3, df 3, y0, y1, y2, y3, y4, y5, y6, y7, y8] H := by
  rcases hp with ⟨rfl, rfl, rfl, rfl⟩ | ⟨rfl, rfl, rfl, rfl⟩ | ⟨rfl, rfl, rfl, rfl⟩ | ⟨rfl, rfl, rfl, rfl⟩ | ⟨rfl, rfl, rfl, rfl⟩ | ⟨rfl, rfl, rfl, rfl⟩ | ⟨rfl, rfl, rfl, rfl⟩ | ⟨rfl, rfl, rfl, rfl⟩ | ⟨rfl, rfl, rfl, rfl⟩ | ⟨rfl, rfl, rfl, rfl⟩ | ⟨rfl, rfl, rfl, rfl⟩ | ⟨rfl, rfl, rfl, rfl⟩
  · exact hP.sub [0, 1, 2, 3, 4, 5, 6, 7, 8, 9, 10, 11, 12, 13, 14, 15, 16, 17, 18, 19, 20, 21, 22, 23, 24, 25, 26, 27, 28, 29, 30, 31, 32, 33, 34, 35, 36, 37, 38, 39, 40] rfl
  · exact hP.sub [0, 1, 2, 3, 4, 5, 6, 7, 8, 9, 10, 11, 12, 13, 14, 15, 16, 17, 18, 19, 20, 21, 22, 23, 24, 25, 28, 29, 26, 27, 30, 31, 32, 33, 34, 35, 36, 37, 38, 39, 40] rfl
  · exact hP.sub [0, 1, 2, 3, 4, 5, 6, 7, 8, 9, 10, 11, 12, 13, 14, 15, 16, 17, 18, 19, 20, 21, 22, 23, 24, 25, 28, 29, 30, 31, 26, 27, 32, 33, 34, 35, 36, 37, 38, 39, 40] rfl
  · exact hP.sub [0, 1, 2, 3, 4, 5, 6, 7, 8, 9, 10, 11, 12, 13, 14, 15, 16, 17, 18, 19, 20, 21, 22, 23, 26, 27, 24, 25, 28, 29, 30, 31, 32, 33, 34, 35, 36, 37, 38, 39, 40] rfl
  · exact hP.sub [0, 1, 2, 3, 4, 5, 6, 7, 8, 9, 10, 11, 12, 13, 14, 15, 16, 17, 18, 19, 20, 21, 22, 23, 28, 29, 24, 25, 26, 27, 30, 31, 32, 33, 34, 35, 36, 37, 38, 39, 40] rfl
  · exact hP.sub [0, 1, 2, 3, 4, 5, 6, 7, 8, 9, 10, 11, 12, 13, 14, 15, 16, 17, 18, 19, 20, 21, 22, 23, 28, 29, 24, 25, 30, 31, 26, 27, 32, 33, 34, 35, 36, 37, 38, 39, 40] rfl
  · exact hP.sub [0, 1, 2, 3, 4, 5, 6, 7, 8, 9, 10, 11, 12, 13, 14, 15, 16, 17, 18, 19, 20, 21, 22, 23, 26, 27, 28, 29, 24, 25, 30, 31, 32, 33, 34, 35, 36, 37, 38, 39, 40] rfl
  · exact hP.sub [0, 1, 2, 3, 4, 5, 6, 7, 8, 9, 10, 11, 12, 13, 14, 15, 16, 17, 18, 19, 20, 21, 22, 23, 28, 29, 26, 27, 24, 25, 30, 31, 32, 33, 34, 35, 36, 37, 38, 39, 40] rfl
  · exact hP.sub [0, 1, 2, 3, 4, 5, 6, 7, 8, 9, 10, 11, 12, 13, 14, 15, 16, 17, 18, 19, 20, 21, 22, 23, 28, 29, 30, 31, 24, 25, 26, 27, 32, 33, 34, 35, 36, 37, 38, 39, 40] rfl
  · exact hP.sub [0, 1, 2, 3, 4, 5, 6, 7, 8, 9, 10, 11, 12, 13, 14, 15, 16, 17, 18, 19, 20, 21, 22, 23, 26, 27, 28, 29, 30, 31, 24, 25, 32, 33, 34, 35, 36, 37, 38, 39, 40] rfl
  · exact hP.sub [0, 1, 2, 3, 4, 5, 6, 7, 8, 9, 10, 11, 12, 13, 14, 15, 16, 17, 18, 19, 20, 21, 22, 23, 28, 29, 26, 27, 30, 31, 24, 25, 32, 33, 34, 35, 36, 37, 38, 39, 40] rfl
  · exact hP.sub [0, 1, 2, 3, 4, 5, 6, 7, 8, 9, 10, 11, 12, 13, 14, 15, 16, 17, 18, 19, 20, 21, 22, 23, 28, 29, 30, 31, 26, 27, 24, 25, 32, 33, 34, 35, 36, 37, 38, 39, 40] rfl
set_option maxHeartbeats 4000000 in
set_option maxRecDepth 100000 in
theorem pa_DB {i0 i1 i2 i3 : Nat} (hp : pmS i0 i1 i2 i3) (hD : va_D A [c0, c1, c2, c3, c4, c5, c6, c7, c8, c9, c10, c11, c12, c13, c14, c15, c16, c17, c18, c19, c20, c21, c22, c23, cf i0, df i0, cf i1, df i1, cf i2, df i2, cf i3, df i3, y0, y1, y2, y3, y4, y5, y6, y7, y8]) : va_D A [c0, c1, c2, c3, c4, c5, c6, c7, c8, c9, c10, c11, c12, c13, c14, c15, c16, c17, c18, c19, c20, c21, c22, c23, cf 0, df 0, cf 1, df 1, cf 2, df 2, cf 3, df 3, y0, y1, y2, y3, y4, y5, y6, y7, y8] := by
  rcases hp with ⟨rfl, rfl, rfl, rfl⟩ | ⟨rfl, rfl, rfl, rfl⟩ | ⟨rfl, rfl, rfl, rfl⟩ | ⟨rfl, rfl, rfl, rfl⟩ | ⟨rfl, rfl, rfl, rfl⟩ | ⟨rfl, rfl, rfl, rfl⟩ | ⟨rfl, rfl, rfl, rfl⟩ | ⟨rfl, rfl, rfl, rfl⟩ | ⟨rfl, rfl, rfl, rfl⟩ | ⟨rfl, rfl, rfl, rfl⟩ | ⟨rfl, rfl, rfl, rfl⟩ | ⟨rfl, rfl, rfl, rfl⟩
  · exact hD.sub [0, 1, 2, 3, 4, 5, 6, 7, 8, 9, 10, 11, 12, 13, 14, 15, 16, 17, 18, 19, 20, 21, 22, 23, 24, 25, 26, 27, 28, 29, 30, 31, 32, 33, 34, 35, 36, 37, 38, 39, 40] (by decide) rfl
  · exact hD.sub [0, 1, 2, 3, 4, 5, 6, 7, 8, 9, 10, 11, 12, 13, 14, 15, 16, 17, 18, 19, 20, 21, 22, 23, 24, 25, 28, 29, 26, 27, 30, 31, 32, 33, 34, 35, 36, 37, 38, 39, 40] (by decide) rfl
  · exact hD.sub [0, 1, 2, 3, 4, 5, 6, 7, 8, 9, 10, 11, 12, 13, 14, 15, 16, 17, 18, 19, 20, 21, 22, 23, 24, 25, 28, 29, 30, 31, 26, 27, 32, 33, 34, 35, 36, 37, 38, 39, 40] (by decide) rfl
  · exact hD.sub [0, 1, 2, 3, 4, 5, 6, 7, 8, 9, 10, 11, 12, 13, 14, 15, 16, 17, 18, 19, 20, 21, 22, 23, 26, 27, 24, 25, 28, 29, 30, 31, 32, 33, 34, 35, 36, 37, 38, 39, 40] (by decide) rfl
  · exact hD.sub [0, 1, 2, 3, 4, 5, 6, 7, 8, 9, 10, 11, 12, 13, 14, 15, 16, 17, 18, 19, 20, 21, 22, 23, 28, 29, 24, 25, 26, 27, 30, 31, 32, 33, 34, 35, 36, 37, 38, 39, 40] (by decide) rfl
  · exact hD.sub [0, 1, 2, 3, 4, 5, 6, 7, 8, 9, 10, 11, 12, 13, 14, 15, 16, 17, 18, 19, 20, 21, 22, 23, 28, 29, 24, 25, 30, 31, 26, 27, 32, 33, 34, 35, 36, 37, 38, 39, 40] (by decide) rfl
  · exact hD.sub [0, 1, 2, 3, 4, 5, 6, 7, 8, 9, 10, 11, 12, 13, 14, 15, 16, 17, 18, 19, 20, 21, 22, 23, 26, 27, 28, 29, 24, 25, 30, 31, 32, 33, 34, 35, 36, 37, 38, 39, 40] (by decide) rfl
  · exact hD.sub [0, 1, 2, 3, 4, 5, 6, 7, 8, 9, 10, 11, 12, 13, 14, 15, 16, 17, 18, 19, 20, 21, 22, 23, 28, 29, 26, 27, 24, 25, 30, 31, 32, 33, 34, 35, 36, 37, 38, 39, 40] (by decide) rfl
  · exact hD.sub [0, 1, 2, 3, 4, 5, 6, 7, 8, 9, 10, 11, 12, 13, 14, 15, 16, 17, 18, 19, 20, 21, 22, 23, 28, 29, 30, 31, 24, 25, 26, 27, 32, 33, 34, 35, 36, 37, 38, 39, 40] (by decide) rfl
  · exact hD.sub [0, 1, 2, 3, 4, 5, 6, 7, 8, 9, 10, 11, 12, 13, 14, 15, 16, 17, 18, 19, 20, 21, 22, 23, 26, 27, 28, 29, 30, 31, 24, 25, 32, 33, 34, 35, 36, 37, 38, 39, 40] (by decide) rfl
  · exact hD.sub [0, 1, 2, 3, 4, 5, 6, 7, 8, 9, 10, 11, 12, 13, 14, 15, 16, 17, 18, 19, 20, 21, 22, 23, 28, 29, 26, 27, 30, 31, 24, 25, 32, 33, 34, 35, 36, 37, 38, 39, 40] (by decide) rfl
  · exact hD.sub [0, 1, 2, 3, 4, 5, 6, 7, 8, 9, 10, 11, 12, 13, 14, 15, 16, 17, 18, 19, 20, 21, 22, 23, 28, 29, 30, 31, 26, 27, 24, 25, 32, 33, 34, 35, 36, 37, 38, 39, 40] (by decide) rfl
end PMA
