/-! the law's start -/
theorem rwo_preS {C : String} {s : State} {H : Heap} {D : va_G} {cl : List vw_C} {ws : va_W} {tys : List (ClassId × FieldType)} {av : List Value} {A : Nat → Prop} (hK : kK D cl tys s) (hP : va_P D cl ws H) (hD : va_D A ws) (hO : va_AO C s) : PreS s H (va_Pc av (fun U => rW D cl ws tys H.size U ∧ va_AO C U)) av := by
  obtain ⟨b1, b3⟩ := rw_preS (av := av) hK hP hD
  exact ⟨fun a U g mk q => ⟨q.1, (b1 a U g mk ⟨q.1, q.2.1⟩).2, va_AO.moved (u := U) (U := U.calling g mk a) (Vm.Alike.refl U.vm) q.2.2⟩, fun U hU hW => ⟨rfl, (b3 U hU hW).2, va_AO.moved hW.alike hO⟩⟩
theorem st_str {b : Nat} {s : State} (hts0 : ∀ w ∈ lw_tbl, w.before #[Value.ref b] s = true) (hgv : (Jvm.Cond.and given_1 narrow_1).before #[Value.ref b] s = true) : ∃ aK aV : Nat, sK aK aV (fun q => s.heap.size ≤ q) s s.heap := by
  have hg := flat_of_before _ hgv
  have hA : ∀ a : Nat, a < s.heap.size → ¬ s.heap.size ≤ a := fun a h => Nat.not_le.mpr h
  have x1 := hg (Cond.exactly (Term.string "RestRegisters$Tape" 54) "java/lang/String") (by decide +kernel)
  have x2 := hg (Cond.eq (.field (Term.string "RestRegisters$Tape" 54) "java/lang/String" "coder" "B") (.int 0)) (by decide +kernel)
  have x3 := hg (Cond.arrayOf (.field (Term.string "RestRegisters$Tape" 54) "java/lang/String" "value" "[B") .byte) (by decide +kernel)
  have x4 := hg (Cond.eq (.length (.field (Term.string "RestRegisters$Tape" 54) "java/lang/String" "value" "[B")) (.int 5)) (by decide +kernel)
  have y0 := hg (Cond.eq (.elem (.field (Term.string "RestRegisters$Tape" 54) "java/lang/String" "value" "[B") (.int 0)) (.int 112)) (by decide +kernel)
  have y1 := hg (Cond.eq (.elem (.field (Term.string "RestRegisters$Tape" 54) "java/lang/String" "value" "[B") (.int 1)) (.int 108)) (by decide +kernel)
  have y2 := hg (Cond.eq (.elem (.field (Term.string "RestRegisters$Tape" 54) "java/lang/String" "value" "[B") (.int 2)) (.int 115)) (by decide +kernel)
  have y3 := hg (Cond.eq (.elem (.field (Term.string "RestRegisters$Tape" 54) "java/lang/String" "value" "[B") (.int 3)) (.int 119)) (by decide +kernel)
  have y4 := hg (Cond.eq (.elem (.field (Term.string "RestRegisters$Tape" 54) "java/lang/String" "value" "[B") (.int 4)) (.int 122)) (by decide +kernel)
  have z1 := hg (Cond.eq (.static "java/lang/String" "COMPACT_STRINGS" "Z") (.int 1)) (by decide +kernel)
  obtain ⟨adK, adV, hvS, hvE⟩ := vk_Sof (args := #[Value.ref b]) (s := s) (N := 1) (tm := fun _ => (Term.string "RestRegisters$Tape" 54)) (len := [5]) (byt := [[112, 108, 115, 119, 122]]) (A := fun q => s.heap.size ≤ q) (fun i hi => by
      cases (show i = 0 by omega)
      decide) (fun i hi => x1) (fun i hi => x2) (fun i hi => x3) (fun i hi => by
      cases (show i = 0 by omega)
      exact x4) (fun i hi j hj => by
      cases (show i = 0 by omega)
      have h5 : j < 5 := hj
      rcases (show j = 0 ∨ j = 1 ∨ j = 2 ∨ j = 3 ∨ j = 4 by omega) with rfl | rfl | rfl | rfl | rfl
      · exact y0
      · exact y1
      · exact y2
      · exact y3
      · exact y4) (fun i j hi hj h => absurd (show i = j by omega) h) hA
  obtain ⟨h1, h2, h3, h4⟩ := hvS.1 0 (by decide)
  obtain ⟨cell, k1, k2, k3, k4, k5, k6, k7⟩ := h4
  refine ⟨adK 0, adV 0, vk_R.of (hts0 (Cond.stringRef RX2 54 "plswz") (List.mem_of_getElem? (i := 220) (by decide +kernel))) (hvE 0 (by decide)), h1, h2, h3, ⟨cell, k1, k2, k3, k4, k5, fun j hj => ?_, k7⟩, va_Zof (hts0 (Cond.laysStatic "java/lang/String" "COMPACT_STRINGS" "Z") (List.mem_of_getElem? (i := 234) (by decide +kernel))) (hts0 (Cond.initialized "java/lang/String") (List.mem_of_getElem? (i := 32) (by decide +kernel))) (va_eqt z1) hA⟩
  rw [k6 j hj]
  rcases (show j = 0 ∨ j = 1 ∨ j = 2 ∨ j = 3 ∨ j = 4 by omega) with rfl | rfl | rfl | rfl | rfl <;> rfl
theorem st_K {b : Nat} {s : State} (hts0 : ∀ w ∈ lw_tbl, w.before #[Value.ref b] s = true) : va_AO "RestRegisters$Sheet" s ∧ ∃ (dC : Nat → ClassId) (dI : Nat → Nat → Nat) (cI cJ cS : ClassId), kK (dC, dI) vwCl (tyz cI cJ cS) s := by
  obtain ⟨c0, iS0, hKn0⟩ := u_known (C := RX0) (T := TX0) (N := 7) (n := 7) hts0 in_wsX00 (hts0 (Cond.instantiable RX0 7) (List.mem_of_getElem? (i := 111) (by decide +kernel)))
  obtain ⟨c1, iS1, hKn1⟩ := u_known (C := RX1) (T := TX1) (N := 4) (n := 4) hts0 in_wsX10 (hts0 (Cond.instantiable RX1 4) (List.mem_of_getElem? (i := 145) (by decide +kernel)))
  obtain ⟨c2, iS2, hKn2⟩ := u_known (C := RX2) (T := TX2) (N := 4) (n := 4) hts0 in_wsX20 (hts0 (Cond.instantiable RX2 4) (List.mem_of_getElem? (i := 49) (by decide +kernel)))
  obtain ⟨c3, iS3, hKn3⟩ := u_known (C := RX3) (T := TX3) (N := 7) (n := 7) hts0 in_wsX30 (hts0 (Cond.instantiable RX3 7) (List.mem_of_getElem? (i := 55) (by decide +kernel)))
  obtain ⟨c4, iS4, hKn4⟩ := u_known (C := RX4) (T := TX4) (N := 5) (n := 5) hts0 in_wsX40 (hts0 (Cond.instantiable RX4 5) (List.mem_of_getElem? (i := 41) (by decide +kernel)))
  obtain ⟨c5, iS5, hKn5⟩ := u_known (C := RX5) (T := TX5) (N := 15) (n := 15) hts0 in_wsX50 (hts0 (Cond.instantiable RX5 15) (List.mem_of_getElem? (i := 690) (by decide +kernel)))
  have hO : va_AO "RestRegisters$Sheet" s := va_AO.of (hts0 (Cond.arrayOver (.object "RestRegisters$Sheet")) (List.mem_of_getElem? (i := 144) (by decide +kernel)))
  obtain ⟨cI, kI, pI, i1, i2, i3⟩ := Cond.arrayClass_spec (hts0 (Cond.arrayClass .int) (List.mem_of_getElem? (i := 94) (by decide +kernel)))
  obtain ⟨cJ, kJ, pJ, j1, j2, j3⟩ := Cond.arrayClass_spec (hts0 (Cond.arrayClass .long) (List.mem_of_getElem? (i := 167) (by decide +kernel)))
  obtain ⟨pS, cS, kS, s1, s2, s3, s4, s5⟩ := Cond.arrayOver_spec (hts0 (Cond.arrayOver (.object "RestRegisters$Sheet")) (List.mem_of_getElem? (i := 144) (by decide +kernel)))
  refine ⟨hO, fun k => if k = 0 then c0 else if k = 1 then c1 else if k = 2 then c2 else if k = 3 then c3 else if k = 4 then c4 else c5, fun k => if k = 0 then iS0 else if k = 1 then iS1 else if k = 2 then iS2 else if k = 3 then iS3 else if k = 4 then iS4 else iS5, cI, cJ, cS, ⟨fun k q hq => ?_, fun k q hq => ?_⟩, va_Nw.of rfl (hts0 (Cond.methodLinkNest RX4 9 yX2_init RX4) (List.mem_of_getElem? (i := 50) (by decide +kernel))), va_Nw.of rfl (hts0 (Cond.methodLinkNest RX2 17 yX3_init RX4) (List.mem_of_getElem? (i := 56) (by decide +kernel))), va_Nw.of rfl (hts0 (Cond.methodLinkNest RX4 18 yX0_init RX4) (List.mem_of_getElem? (i := 112) (by decide +kernel))), va_Nw.of rfl (hts0 (Cond.methodLinkNest RX0 11 yX3_init RX4) (List.mem_of_getElem? (i := 117) (by decide +kernel))), va_Nw.of rfl (hts0 (Cond.methodLinkNest RX4 32 yX1_init RX4) (List.mem_of_getElem? (i := 146) (by decide +kernel))), va_Nw.of rfl (hts0 (Cond.methodLinkNest RX3 34 yX4_commonPart RX4) (List.mem_of_getElem? (i := 322) (by decide +kernel))), va_Nw.of rfl (hts0 (Cond.methodLinkNest RX3 89 yX4_power RX4) (List.mem_of_getElem? (i := 602) (by decide +kernel)))⟩
  · match k, hq with
    | 0, hq => cases hq; exact hKn0
    | 1, hq => cases hq; exact hKn1
    | 2, hq => cases hq; exact hKn2
    | 3, hq => cases hq; exact hKn3
    | 4, hq => cases hq; exact hKn4
    | 5, hq => cases hq; exact hKn5
    | k + 6, hq => simp [vwCl] at hq
  · match k, hq with
    | 0, hq => cases hq; exact ⟨fun n z => ⟨fun k h => (by cases h), kI, i2, pI, i3⟩, i1⟩
    | 1, hq => cases hq; exact ⟨fun n z => ⟨fun k h => (by cases h), kJ, j2, pJ, j3⟩, j1⟩
    | 2, hq => cases hq; exact ⟨fun n z => ⟨fun k h => (by cases h), kS, s3, pS, s4⟩, kS, pS, s3, s4, s1, s5⟩
    | k + 3, hq => simp [tyz] at hq
def B0 : Nat → Nat := fun j => if j = 14 then 1 else 0
theorem nRl.new {kf wf sf : Nat → Int32} {R P D : Nat → Nat} : nRl 0 0 1 1 1 0 0 kf wf sf R P D B0 := by
  have h0 : B0 0 = 0 := rfl
  refine ⟨rfl, rfl, rfl, rfl, rfl, rfl, ⟨⟨?_, fun j hj => absurd hj (Nat.not_lt_zero _), fun j hj => absurd hj (Nat.not_lt_zero _), fun i j _ hj => absurd hj (Nat.not_lt_zero _)⟩, Nat.le_refl _, fun r k _ hk => absurd hk (Nat.not_lt_zero _), by decide, by decide⟩, fun j hj => absurd hj (Nat.not_lt_zero _), fun j hj => absurd hj (Nat.not_lt_zero _), ⟨fun _ => 0, fun j hj => absurd hj (Nat.not_lt_zero _), fun j hj => absurd hj (Nat.not_lt_zero _)⟩, fun r k _ hk => absurd hk (Nat.not_lt_zero _), by decide, fun j hj => absurd hj (Nat.not_lt_zero _)⟩
  decide
