/-! making objects: arrays of the known classes, constructors' ends; rows that agree below their length are one cell -/
theorem arrV_ext {cA : ClassId} {n : Nat} {f g : Nat → Value} (h : ∀ j, j < n → f j = g j) : arrV cA n f = arrV cA n g := by
  unfold arrV
  congr 1
  apply Array.ext
  · simp
  · intro i h1 h2
    simp at h1 h2 ⊢
    exact h i (by omega)
def eE (x y : Nat × va_E) : Prop := x.1 = y.1 ∧ ∀ (D : va_G) (cl : List vw_C) (H : Heap), va_at D cl x H → va_at D cl y H
def wE : va_W → va_W → Prop | [], [] => True | x :: l, y :: k => eE x y ∧ wE l k | _, _ => False
theorem eE.rf (x : Nat × va_E) : eE x x := ⟨rfl, fun _ _ _ h => h⟩
theorem eE.eq {x y : Nat × va_E} (h : x = y) : eE x y := by subst h; exact eE.rf x
theorem eE.i {a n : Nat} {cA : ClassId} {f g : Nat → Int32} (h : ∀ j, j < n → f j = g j) : eE (a, .inl (cA, n, .inl f)) (a, .inl (cA, n, .inl g)) := ⟨rfl, fun D cl H q => by
  show H[a]? = some (vp_cell _ _)
  have q2 : H[a]? = some (vp_cell cA (n, .inl f)) := q
  rw [vp_cell_i] at q2 ⊢
  rw [q2, arrV_ext (fun j hj => by rw [h j hj])]⟩
theorem eE.l {a n : Nat} {cA : ClassId} {f g : Nat → Int64} (h : ∀ j, j < n → f j = g j) : eE (a, .inl (cA, n, .inr (.inl f))) (a, .inl (cA, n, .inr (.inl g))) := ⟨rfl, fun D cl H q => by
  show H[a]? = some (vp_cell _ _)
  have q2 : H[a]? = some (vp_cell cA (n, .inr (.inl f))) := q
  rw [vp_cell_l] at q2 ⊢
  rw [q2, arrV_ext (fun j hj => by rw [h j hj])]⟩
theorem eE.q {a n : Nat} {cA : ClassId} {f g : Nat → Option Nat} (h : ∀ j, j < n → f j = g j) : eE (a, .inl (cA, n, .inr (.inr (.inr (.inr f))))) (a, .inl (cA, n, .inr (.inr (.inr (.inr g))))) := ⟨rfl, fun D cl H q => by
  show H[a]? = some (vp_cell _ _)
  have q2 : H[a]? = some (vp_cell cA (n, .inr (.inr (.inr (.inr f))))) := q
  rw [vp_cell_q] at q2 ⊢
  rw [q2, arrV_ext (fun j hj => by rw [h j hj])]⟩
theorem eE.n {a n : Nat} {cA : ClassId} {f g : Nat → Nat} (h : ∀ j, j < n → f j = g j) : eE (a, .inl (cA, n, .inl (nA f))) (a, .inl (cA, n, .inl (nA g))) := eE.i (fun j hj => by unfold nA; rw [h j hj])
theorem wE.at : ∀ {ws ws' : va_W}, wE ws ws' → ∀ (k : Nat) (y : Nat × va_E), ws'[k]? = some y → ∃ x, ws[k]? = some x ∧ eE x y
  | [], [], _, k, y, h => by simp at h
  | x :: l, y :: k, h, 0, z, hz => by
    simp at hz
    subst hz
    exact ⟨x, by simp, h.1⟩
  | x :: l, y :: k, h, i + 1, z, hz => by
    rw [List.getElem?_cons_succ] at hz
    obtain ⟨x2, h1, h2⟩ := wE.at h.2 i z hz
    exact ⟨x2, by rw [List.getElem?_cons_succ]; exact h1, h2⟩
  | [], _ :: _, h, _, _, _ => h.elim
  | _ :: _, [], h, _, _, _ => h.elim
theorem wE.P {ws ws' : va_W} {D : va_G} {cl : List vw_C} {H : Heap} (h : wE ws ws') (hP : va_P D cl ws H) : va_P D cl ws' H := fun k y hy => by
  obtain ⟨x, h1, h2⟩ := h.at k y hy
  exact h2.2 D cl H (hP k x h1)
theorem wE.D {ws ws' : va_W} {A : Nat → Prop} (h : wE ws ws') (hD : va_D A ws) : va_D A ws' := ⟨fun i j y z hi hj e => by
  obtain ⟨x1, h1, h2⟩ := h.at i y hi
  obtain ⟨x2, h3, h4⟩ := h.at j z hj
  exact hD.1 i j x1 x2 h1 h3 (by rw [h2.1, h4.1, e]), fun k y hy => by
  obtain ⟨x, h1, h2⟩ := h.at k y hy
  rw [← h2.1]
  exact hD.2 k x h1⟩
def adr : List Nat → Nat → Nat | [], _ => 0 | a :: _, 0 => a | _ :: l, i + 1 => adr l i
def qX (D : va_G) (cl : List vw_C) (F : (Nat → Nat) → va_W) (A : Nat → Prop) : Array Value → State → Outcome → State → Prop := va_Qv (fun _ : Nat → Nat => True) (fun f t => va_P D cl (F f) t.heap ∧ va_D A (F f)) A
section NW
variable {p : Program} {l : Launch} {e : Env} {R : Room} {s : State} {m : MethodId} {args : Array Value} {below : List Frame} {meth : Method} {c : Code} {H : Heap} {locs : List Loc} {cells slots mc ms : Nat} {Q : State → Prop}
variable {cc : ByteArray} {pc : Nat} {ls : Array Slot} {rest st0 : List Value} {D : va_G} {cl : List vw_C} {ws wc wr : va_W} {F : (Nat → Nat) → va_W} {A0 A : Nat → Prop} {H0 : Heap} {a : Array Value} {cI cJ cS : ClassId}
theorem rx_callv (hr : va_Run p l e R s m args below meth c H locs cells slots mc ms (F0 m pc ls st0) rest (qX D cl F (va_A wc H.size) a) (va_A wc H.size)) (hP : va_P D cl ws H) (hD : va_D A0 ws) (hS : va_S A0 H0 H locs) (hA : ∀ q, H0.size ≤ q → A0 q) (isC isR : List Nat) (hC : isC.map (fun i => ws[i]?) = wc.map some) (hR : isR.map (fun i => ws[i]?) = wr.map some) (hn : va_nd isR = true) (hdis : ∀ i ∈ isR, i ∉ isC) (kk : ∀ (f : Nat → Nat) (H1 : Heap) (locs1 : List Loc), va_P D cl (wr ++ F f) H1 → va_D A0 (wr ++ F f) → va_S A0 H0 H1 locs1 → W p l e R s m args below meth c H1 locs1 (cells + mc) (slots + ms) Q (F0 m (pc + 3) ls rest)) : W p l e R s m args below meth c H locs cells slots Q (F0 m pc ls st0) := by
  have hF := va_free hD hS hA isC hC
  refine va_callv hr hS (fun q _ h => hF q h) hF (fun u t H1 locs1 ht hvm hw hB hz hk hS1 => ?_)
  obtain ⟨hP1, hD1⟩ := hB
  rw [ht] at hP1
  obtain ⟨hPj, hDj⟩ := va_join hP hD isC isR hC hR hn hdis hk hF hP1 hD1
  exact kk u H1 locs1 hPj hDj hS1
theorem rx_vret (f : Nat → Nat) (hexec : p.tables.exec = Jvm.exec) (hb : c.code = cc) (hr : meth.sig.returnType = none) (hlocks : meth.locks = false) (hdg : decode cc pc = .ok (.return_, 1)) (hP : va_P D cl (F f) H) (hD : va_D A (F f)) (hS : va_S A s.heap H locs) : W p l e R s m args below meth c H locs cells slots (MQ below (qX D cl F A) args s cells slots A) (F0 m pc ls []) := W.vret hexec hb hr (fun t ht _ => ⟨⟨f, rfl, trivial, by rw [ht]; exact hP, hD⟩, hS.F ht⟩) hS.2.2 hdg hlocks
theorem rx_newI {N : Nat} (hexec : p.tables.exec = Jvm.exec) (hb : c.code = cc) (harr : (Cond.arrayClass .int).before args s = true) (hK : va_K D cl (tyz cI cJ cS) s) (hP : va_P D cl ws H) (hD : va_D A ws) (hS : va_S A H0 H locs) (hA : ∀ q, H0.size ≤ q → A q) (hN : N < 1000) (hcells : cells + 1 ≤ R.cells) (hslots : slots + N ≤ R.slots) (hdg : decode cc pc = .ok (.newarray .int, 2))
    (kk : ∀ (q : Nat) (H1 : Heap), va_P D cl (ws ++ [(q, .inl (cI, N, .inl (nA (fun _ => 0))))]) H1 → va_D A (ws ++ [(q, .inl (cI, N, .inl (nA (fun _ => 0))))]) → va_S A H0 H1 locs → W p l e R s m args below meth c H1 locs (cells + 1) (slots + N) Q (F0 m (pc + 2) ls (.ref q :: rest))) : W p l e R s m args below meth c H locs cells slots Q (F0 m pc ls (.int (nI N) :: rest)) := by
  refine va_newa (atype := .int) (ty := .int) hexec hb harr rfl hK hP hD hS hA (a0 := (N, .inl (nA (fun _ => 0)))) (fun cA => rfl) (nI_nlt (Nat.zero_le _) (by omega)) (nI_clamp (by omega)) (by show N * 4 ≤ 536870912; omega) hcells hslots hdg (fun q cA H1 hK2 hP hD hS => ?_)
  have e : cA = cI := by
    have h1 := va_nm_int (hK2.2 3 (cA, .int) rfl).2
    have h2 := va_nm_int (hK.2 0 (cI, .int) rfl).2
    rw [h1] at h2
    exact Option.some.inj h2
  subst e
  exact kk q H1 hP hD hS
theorem rx_newJ {N : Nat} (hexec : p.tables.exec = Jvm.exec) (hb : c.code = cc) (harr : (Cond.arrayClass .long).before args s = true) (hK : va_K D cl (tyz cI cJ cS) s) (hP : va_P D cl ws H) (hD : va_D A ws) (hS : va_S A H0 H locs) (hA : ∀ q, H0.size ≤ q → A q) (hN : N < 1000) (hcells : cells + 1 ≤ R.cells) (hslots : slots + N ≤ R.slots) (hdg : decode cc pc = .ok (.newarray .long, 2))
    (kk : ∀ (q : Nat) (H1 : Heap), va_P D cl (ws ++ [(q, .inl (cJ, N, .inr (.inl (fun _ => 0))))]) H1 → va_D A (ws ++ [(q, .inl (cJ, N, .inr (.inl (fun _ => 0))))]) → va_S A H0 H1 locs → W p l e R s m args below meth c H1 locs (cells + 1) (slots + N) Q (F0 m (pc + 2) ls (.ref q :: rest))) : W p l e R s m args below meth c H locs cells slots Q (F0 m pc ls (.int (nI N) :: rest)) := by
  refine va_newa (atype := .long) (ty := .long) hexec hb harr rfl hK hP hD hS hA (a0 := (N, .inr (.inl (fun _ => 0)))) (fun cA => rfl) (nI_nlt (Nat.zero_le _) (by omega)) (nI_clamp (by omega)) (by show N * 8 ≤ 536870912; omega) hcells hslots hdg (fun q cA H1 hK2 hP hD hS => ?_)
  have e : cA = cJ := by
    have h1 := va_nm_long (hK2.2 3 (cA, .long) rfl).2
    have h2 := va_nm_long (hK.2 1 (cJ, .long) rfl).2
    rw [h1] at h2
    exact Option.some.inj h2
  subst e
  exact kk q H1 hP hD hS
theorem rx_newS {own : String} {index : Nat} (hexec : p.tables.exec = Jvm.exec) (hb : c.code = cc) (hown : s.vm.findClass own = some m.cls) (hclink : (Cond.classLink own index "RestRegisters$Sheet").before args s = true) (hover : va_AO "RestRegisters$Sheet" s) (hK : va_K D cl (tyz cI cJ cS) s) (hP : va_P D cl ws H) (hD : va_D A ws) (hS : va_S A H0 H locs) (hA : ∀ q, H0.size ≤ q → A q) (hcells : cells + 1 ≤ R.cells) (hslots : slots + 4 ≤ R.slots) (hdg : decode cc pc = .ok (.anewarray index, 3))
    (kk : ∀ (q : Nat) (H1 : Heap), va_P D cl (ws ++ [(q, .inl (cS, 4, .inr (.inr (.inr (.inr (fun _ => none))))))]) H1 → va_D A (ws ++ [(q, .inl (cS, 4, .inr (.inr (.inr (.inr (fun _ => none))))))]) → va_S A H0 H1 locs → W p l e R s m args below meth c H1 locs (cells + 1) (slots + 4) Q (F0 m (pc + 3) ls (.ref q :: rest))) : W p l e R s m args below meth c H locs cells slots Q (F0 m pc ls (.int (nI 4) :: rest)) := by
  refine va_newq (N' := 4) hexec hb hown hclink hover hK hP hD hS hA (by decide) (by decide) (by decide) hcells hslots hdg (fun q cA H1 hK2 hP hD hS => ?_)
  have e : cA = cS := by
    obtain ⟨k1, c1, a1, a2, a3, h1⟩ := (hK2.2 3 (cA, .object "RestRegisters$Sheet") rfl).2
    obtain ⟨k2, c2, b1, b2, b3, h2⟩ := (hK.2 2 (cS, .object "RestRegisters$Sheet") rfl).2
    rw [h1] at h2
    exact Option.some.inj h2
  subst e
  exact kk q H1 hP hD hS
end NW
