/-! the class's bank and the reference's memory: what ties them -/
def reR (n : Nat) (R B : Nat → Nat) : Prop := ∀ r k, r < 4 → k < n → R (r * 6 + k) = rsB B (r * 6 + k)
def rgE (B : Nat → Nat) (nx : Nat) (P D : Nat → Nat) : Prop := nx < 8 ∧ ∀ j, j < B 39 → (D ((nx + 7 - j) % 8) = B (40 + 25 * (B 39 - 1 - j)) ∧ B (40 + 25 * (B 39 - 1 - j)) < 2 ^ 31) ∧ ∀ r k, r < 4 → k < B 0 → P ((nx + 7 - j) % 8 * 24 + (r * 6 + k)) = B (41 + 25 * (B 39 - 1 - j) + (r * 6 + k)) ∧ B (41 + 25 * (B 39 - 1 - j) + (r * 6 + k)) < wdB B k
def shE (B : Nat → Nat) (sf : Nat → Int32) : Prop := ∃ S, isA (B 0) sf S ∧ shOk (B 0) (wdB B) S (spB B)
/-- all that a bank has of a memory -/
def bRl (B : Nat → Nat) (nx : Nat) (kf wf sf : Nat → Int32) (R P D : Nat → Nat) : Prop := mOk B ∧ isA (B 0) kf (kdB B) ∧ isA (B 0) wf (wdB B) ∧ shE B sf ∧ reR (B 0) R B ∧ rgE B nx P D
theorem rg_cg {B C : Nat → Nat} {nx : Nat} {P D : Nat → Nat} (h : rgE B nx P D) (h8 : B 39 ≤ 8) (h6 : B 0 ≤ 6) (h0 : C 0 = B 0) (hw : ∀ k, k < B 0 → wdB C k = wdB B k) (hc : ∀ q, 39 ≤ q → q < 240 → C q = B q) : rgE C nx P D := by
  refine ⟨h.1, fun j hj => ?_⟩
  rw [hc 39 (Nat.le_refl _) (by decide)] at hj ⊢
  obtain ⟨a, b⟩ := h.2 j hj
  rw [hc (40 + 25 * (B 39 - 1 - j)) (by omega) (by omega)]
  refine ⟨a, fun r k hr hk => ?_⟩
  rw [h0] at hk
  rw [hc (41 + 25 * (B 39 - 1 - j) + (r * 6 + k)) (by omega) (by omega), hw k hk]
  exact b r k hr hk
theorem md1_hi {B : Nat → Nat} (h8 : B 39 ≤ 8) {i q : Nat} (hi : i < min (B 39) 7) (hq : q < 25) : md1 B (40 + 25 * i + q) = B (40 + 25 * (if B 39 = 8 then i + 1 else i) + q) := by
  unfold md1
  by_cases h : B 39 = 8
  · rw [if_pos h, if_pos h, uN_ne (by omega), cpN_in (by omega)]
    congr 1
    omega
  · rw [if_neg h, if_neg h]
theorem mdB_old {B : Nat → Nat} (h8 : B 39 ≤ 8) {i q : Nat} (hi : i < min (B 39) 7) (hq : q < 25) : mdB B (40 + 25 * i + q) = B (40 + 25 * (if B 39 = 8 then i + 1 else i) + q) := by
  unfold mdB
  rw [md1_39 h8, uN_ne (by omega), cpN_out (by omega), md1_hi h8 hi hq]
theorem mdB_new {B : Nat → Nat} (h8 : B 39 ≤ 8) {q : Nat} (hq : q < 25) : mdB B (40 + 25 * min (B 39) 7 + q) = B (14 + q) := by
  unfold mdB
  rw [md1_39 h8, uN_ne (by omega), cpN_in (by omega), md1_lo (by omega)]
  congr 1
  omega
theorem rg_push {B : Nat → Nat} {nx : Nat} {R P D : Nat → Nat} (hm : mOk B) (h : rgE B nx P D) (hr : reR (B 0) R B) (h8 : B 39 ≤ 8) (h6 : B 0 ≤ 6) : rgE (mdB B) ((nx + 1) % 8) (cpN R P 0 (nx * 24) 24) (uN D nx (B 14)) := by
  have hx := h.1
  refine ⟨Nat.mod_lt _ (by decide), fun j hj => ?_⟩
  rw [mdB_39 h8] at hj ⊢
  rw [mdB_lo (show 0 < 39 by decide)]
  rcases Nat.eq_zero_or_pos j with q | q
  · subst q
    have e1 : ((nx + 1) % 8 + 7 - 0) % 8 = nx := by omega
    have e2 : min (B 39 + 1) 8 - 1 - 0 = min (B 39) 7 := by omega
    have en : mdB B (40 + 25 * min (B 39) 7) = B 14 := mdB_new h8 (q := 0) (by decide)
    rw [e1, e2, uN_eq, en]
    refine ⟨⟨rfl, hm.2.2.2.2⟩, fun r k hr2 hk => ?_⟩
    have e3 : cpN R P 0 (nx * 24) 24 (nx * 24 + (r * 6 + k)) = R (r * 6 + k) := by
      rw [cpN_in (by omega)]
      congr 1
      omega
    have e5 : mdB B (41 + 25 * min (B 39) 7 + (r * 6 + k)) = rsB B (r * 6 + k) := by
      rw [show 41 + 25 * min (B 39) 7 + (r * 6 + k) = 40 + 25 * min (B 39) 7 + (1 + (r * 6 + k)) by omega, mdB_new h8 (by omega)]
      unfold rsB
      congr 1
      omega
    have e6 : wdB (mdB B) k = wdB B k := by unfold wdB; rw [mdB_lo (by omega)]
    rw [e3, e5, e6]
    exact ⟨hr r k hr2 hk, hm.row hr2 k hk⟩
  · have e1 : ((nx + 1) % 8 + 7 - j) % 8 = (nx + 7 - (j - 1)) % 8 := by omega
    have ne : (nx + 7 - (j - 1)) % 8 ≠ nx := by omega
    have hj2 : j - 1 < B 39 := by omega
    obtain ⟨a, b⟩ := h.2 (j - 1) hj2
    have hi : min (B 39 + 1) 8 - 1 - j < min (B 39) 7 := by omega
    have e4 : (if B 39 = 8 then min (B 39 + 1) 8 - 1 - j + 1 else min (B 39 + 1) 8 - 1 - j) = B 39 - 1 - (j - 1) := by
      split <;> omega
    have en : mdB B (40 + 25 * (min (B 39 + 1) 8 - 1 - j)) = B (40 + 25 * (B 39 - 1 - (j - 1))) := by
      have := mdB_old h8 hi (q := 0) (by decide)
      rw [e4] at this
      exact this
    rw [e1, uN_ne ne, en]
    refine ⟨a, fun r k hr2 hk => ?_⟩
    have e3 : cpN R P 0 (nx * 24) 24 ((nx + 7 - (j - 1)) % 8 * 24 + (r * 6 + k)) = P ((nx + 7 - (j - 1)) % 8 * 24 + (r * 6 + k)) := cpN_out (by omega)
    have e5 : mdB B (41 + 25 * (min (B 39 + 1) 8 - 1 - j) + (r * 6 + k)) = B (41 + 25 * (B 39 - 1 - (j - 1)) + (r * 6 + k)) := by
      rw [show 41 + 25 * (min (B 39 + 1) 8 - 1 - j) + (r * 6 + k) = 40 + 25 * (min (B 39 + 1) 8 - 1 - j) + (1 + (r * 6 + k)) by omega, mdB_old h8 hi (by omega), e4]
      congr 1
      omega
    have e6 : wdB (mdB B) k = wdB B k := by unfold wdB; rw [mdB_lo (by omega)]
    rw [e3, e5, e6]
    exact b r k hr2 hk
theorem kd_cg {B C : Nat → Nat} (h : ∀ q, q < 14 → C q = B q) (h6 : B 0 ≤ 6) : C 0 = B 0 ∧ (∀ j, j < B 0 → kdB C j = kdB B j) ∧ (∀ j, j < B 0 → wdB C j = wdB B j) := ⟨h 0 (by decide), fun j hj => h _ (by omega), fun j hj => h _ (by omega)⟩
theorem prW_lo {B C : Nat → Nat} (h : ∀ q, q < 14 → C q = B q) (h6 : B 0 ≤ 6) {k : Nat} (hk : k ≤ B 0) : prW (wdB C) k = prW (wdB B) k := prW_cg (fun j hj => h _ (by omega))
theorem rg_lo {B C : Nat → Nat} (h : ∀ q, q < 14 → C q = B q) (h6 : B 0 ≤ 6) (h1 : B 1 ≤ B 0) : rgB C = rgB B ∧ spB C = spB B := by
  unfold rgB spB
  rw [h 0 (by decide), h 1 (by decide)]
  exact ⟨prW_lo h h6 h1, prW_lo h h6 (Nat.le_refl _)⟩
theorem shOk_cg {n : Nat} {W V S : Nat → Nat} {sp : Nat} (h : shOk n W S sp) (e : ∀ j, j < n → V j = W j) : shOk n V S sp := fun j hj => ⟨(h j hj).1, by rw [e j hj]; exact (h j hj).2.1, fun i hi hne => by rw [e i hi]; exact (h j hj).2.2 i hi hne⟩
theorem shE_cg {B C : Nat → Nat} {sf : Nat → Int32} (h : shE B sf) (hc : ∀ q, q < 14 → C q = B q) (h6 : B 0 ≤ 6) (h1 : B 1 ≤ B 0) : shE C sf := by
  obtain ⟨S, a, b⟩ := h
  refine ⟨S, ?_, ?_⟩
  · rw [hc 0 (by decide)]; exact a
  · rw [hc 0 (by decide), (rg_lo hc h6 h1).2]
    exact shOk_cg b (fun j hj => hc _ (by omega))
theorem isA_cg {n : Nat} {f : Nat → Int32} {g g2 : Nat → Nat} (h : isA n f g) (e : ∀ j, j < n → g2 j = g j) : isA n f g2 := fun j hj => by rw [e j hj]; exact h j hj
theorem bRl.m {B : Nat → Nat} {nx : Nat} {kf wf sf : Nat → Int32} {R P D : Nat → Nat} (h : bRl B nx kf wf sf R P D) : mOk B := h.1
theorem bRl.ro {B : Nat → Nat} {nx : Nat} {kf wf sf : Nat → Int32} {R P D : Nat → Nat} (h : bRl B nx kf wf sf R P D) : rOk (B 0) (wdB B) R := fun r k hr hk => by rw [h.2.2.2.2.1 r k hr hk]; exact h.1.row hr k hk
/-- the memory changes above the wheels alone -/
theorem bRl.mv {B C : Nat → Nat} {nx nx2 : Nat} {kf wf sf : Nat → Int32} {R P D R2 P2 D2 : Nat → Nat} (h : bRl B nx kf wf sf R P D) (hm : mOk C) (hc : ∀ q, q < 14 → C q = B q) (hr : reR (B 0) R2 C) (hg : rgE C nx2 P2 D2) : bRl C nx2 kf wf sf R2 P2 D2 := by
  have h6 := h.1.n
  have h1 := h.1.2.1
  obtain ⟨e0, e1, e2⟩ := kd_cg hc h6
  refine ⟨hm, ?_, ?_, shE_cg h.2.2.2.1 hc h6 h1, ?_, hg⟩
  · rw [e0]; exact isA_cg h.2.1 e1
  · rw [e0]; exact isA_cg h.2.2.1 e2
  · rw [e0]; exact hr
/-- a step that is minded, then rests (and the draw) change -/
theorem bRl.push {B C : Nat → Nat} {nx : Nat} {kf wf sf : Nat → Int32} {R P D R2 : Nat → Nat} (h : bRl B nx kf wf sf R P D) (hm : mOk C) (hlo : ∀ q, q < 14 → C q = B q) (hhi : ∀ q, 39 ≤ q → C q = mdB B q) (hr : reR (B 0) R2 C) : bRl C ((nx + 1) % 8) kf wf sf R2 (cpN R P 0 (nx * 24) 24) (uN D nx (B 14)) := by
  have h6 := h.1.n
  have h8 := h.1.2.2.2.1
  refine h.mv hm hlo hr (rg_cg (rg_push h.1 h.2.2.2.2.2 h.2.2.2.2.1 h8 h6) ?_ ?_ ?_ ?_ (fun q a _ => hhi q a))
  · rw [mdB_39 h8]; omega
  · rw [mdB_lo (by decide)]; exact h6
  · rw [mdB_lo (by decide)]; exact hlo 0 (by decide)
  · intro k hk
    rw [mdB_lo (by decide)] at hk
    unfold wdB
    rw [mdB_lo (by omega)]
    exact hlo _ (by omega)
theorem re_rw {B : Nat → Nat} {n N r : Nat} {R F G : Nat → Nat} (h : reR n R B) (hr : r < 4) (hn : n ≤ N) (hN : N ≤ 6) (hF : ∀ k, k < n → F k = G k) : reR n (rwN r F n R) (rwB r G N (mdB B)) := fun r2 k hr2 hk => by
  rw [rwB_rs]
  unfold rwN
  by_cases q : r2 = r
  · subst q
    rw [if_pos (by omega), if_pos (by omega), Nat.add_sub_cancel_left]
    exact hF k hk
  · rw [if_neg (by omega), if_neg (by omega), h r2 k hr2 hk]
    unfold rsB
    rw [mdB_lo (by omega)]
theorem bRl.rw {B : Nat → Nat} {nx : Nat} {kf wf sf : Nat → Int32} {R P D F G : Nat → Nat} (h : bRl B nx kf wf sf R P D) {r N : Nat} (hr : r < 4) (hn : B 0 ≤ N) (hN : N ≤ 6) (hF : ∀ k, k < B 0 → F k = G k) (hG : ∀ k, k < B 0 → G k < wdB B k) : bRl (rwB r G N (mdB B)) ((nx + 1) % 8) kf wf sf (rwN r F (B 0) R) (cpN R P 0 (nx * 24) 24) (uN D nx (B 14)) :=
  h.push (mOk_op h.1 hr hN (fun k _ hk => hG k hk)) (fun q hq => by rw [rwB_lo (by omega), mdB_lo (by omega)]) (fun q hq => rwB_hi hr hN hq) (re_rw h.2.2.2.2.1 hr hn hN hF)
theorem vS_cg {S r q : Nat → Nat} {sp : Nat} : ∀ {n : Nat}, (∀ j, j < n → r j = q j) → vS S r sp n = vS S q sp n
  | 0, _ => rfl
  | n + 1, h => by rw [vS, vS, vS_cg (fun j hj => h j (by omega)), h n (by omega)]
/-- what a register is worth on both sides -/
theorem vR_VB {B S R : Nat → Nat} (hm : mOk B) (hS : shOk (B 0) (wdB B) S (spB B)) (hr : reR (B 0) R B) {r : Nat} (h4 : r < 4) : vR S R (spB B) (B 0) r = VB B r := by
  unfold vR
  rw [vS_cg (q := rwR B r) (fun j hj => hr r j h4 hj)]
  exact vS_val hm.1 hS (hm.row h4)
theorem VB_is {B : Nat → Nat} (hm : mOk B) {r : Nat} (h4 : r < 4) : isVal (B 0) (wdB B) (rwR B r) (VB B r) := Val_is hm.1 (hm.row h4) (Nat.le_refl _)
/-- the same behind a step: the shares, the span and the number of wheels are the same there -/
theorem vR_op {B C : Nat → Nat} {nx : Nat} {kf wf sf : Nat → Int32} {S R P D : Nat → Nat} (h : bRl C nx kf wf sf R P D) (hlo : ∀ q, q < 14 → C q = B q) (hb : mOk B) (hS : shOk (B 0) (wdB B) S (spB B)) {r : Nat} (h4 : r < 4) : vR S R (spB B) (B 0) r = VB C r := by
  have e := rg_lo hlo hb.n hb.2.1
  rw [← e.2, ← hlo 0 (by decide)]
  refine vR_VB h.1 ?_ h.2.2.2.2.1 h4
  rw [hlo 0 (by decide), e.2]
  exact shOk_cg hS (fun j hj => hlo _ (by have := hb.n; omega))
theorem rwB_l14 {B G : Nat → Nat} {r N : Nat} : ∀ q, q < 14 → rwB r G N (mdB B) q = B q := fun q hq => by rw [rwB_lo (by omega), mdB_lo (by omega)]
/-! slip -/
theorem bRl.slip {B : Nat → Nat} {nx : Nat} {kf wf sf : Nat → Int32} {R P D : Nat → Nat} (h : bRl B nx kf wf sf R P D) {r k x : Nat} (hr : r < 4) (hk : k < B 0) (hx : x < wdB B k) : bRl (uN (mdB B) (15 + (6 * r) + k) x) ((nx + 1) % 8) kf wf sf (uN R (r * 6 + k) x) (cpN R P 0 (nx * 24) 24) (uN D nx (B 14)) := by
  have h6 := h.1.n
  refine h.push (mOk_u (mOk_md h.1) hr (by rw [mdB_lo (by decide)]; exact hk) (by unfold wdB; rw [mdB_lo (by omega)]; exact hx)) (fun q hq => by rw [uN_ne (by omega), mdB_lo (by omega)]) (fun q hq => uN_ne (by omega)) (fun r2 k2 hr2 hk2 => ?_)
  unfold rsB
  by_cases e : r2 * 6 + k2 = r * 6 + k
  · rw [e, uN_eq, show 15 + (r * 6 + k) = 15 + 6 * r + k by omega, uN_eq]
  · rw [uN_ne e, uN_ne (by omega), mdB_lo (by omega)]
    exact h.2.2.2.2.1 r2 k2 hr2 hk2
/-! undo -/
theorem bRl.undo {B : Nat → Nat} {nx : Nat} {kf wf sf : Nat → Int32} {R P D : Nat → Nat} (h : bRl B nx kf wf sf R P D) (h0 : 0 < B 39) : bRl (udB B) ((nx + 8 - 1) % 8) kf wf sf (cpN P R ((nx + 8 - 1) % 8 * 24) 0 24) P D ∧ udB B 14 = D ((nx + 8 - 1) % 8) ∧ udB B 39 = B 39 - 1 := by
  have h6 := h.1.n
  have h8 := h.1.2.2.2.1
  have hg := h.2.2.2.2.2
  have hx := hg.1
  obtain ⟨a, b⟩ := hg.2 0 h0
  have e39 : udB B 39 = B 39 - 1 := by unfold udB; rw [cpN_out (by omega), uN_eq]
  have elo : ∀ q, q < 14 → udB B q = B q := fun q hq => by unfold udB; rw [cpN_out (by omega), uN_ne (by omega)]
  have ehi : ∀ q, 40 ≤ q → udB B q = B q := fun q hq => by unfold udB; rw [cpN_out (by omega), uN_ne (by omega)]
  have emid : ∀ q, q < 25 → udB B (14 + q) = B (40 + 25 * (B 39 - 1) + q) := fun q hq => by
    unfold udB
    rw [cpN_in (by omega), uN_ne (by omega)]
    congr 1
    omega
  have e14 : udB B 14 = D ((nx + 8 - 1) % 8) := by
    have := emid 0 (by decide)
    rw [show 14 + 0 = 14 from rfl] at this
    rw [this, show (nx + 8 - 1) % 8 = (nx + 7 - 0) % 8 by omega, a.1]
    rfl
  have hre : reR (B 0) (cpN P R ((nx + 8 - 1) % 8 * 24) 0 24) (udB B) := fun r k hr hk => by
    rw [cpN_in (by omega), Nat.sub_zero]
    have e1 := (b r k hr hk).1
    rw [show (nx + 7 - 0) % 8 = (nx + 8 - 1) % 8 by omega] at e1
    rw [e1]
    unfold rsB
    rw [show 15 + (r * 6 + k) = 14 + (1 + (r * 6 + k)) by omega, emid _ (by omega)]
    congr 1
    omega
  refine ⟨h.mv ?_ elo hre ?_, e14, e39⟩
  · refine mOk_rs h.1 elo ?_ (by rw [e39]; omega) (fun r k hr hk => ?_)
    · rw [e14, show (nx + 8 - 1) % 8 = (nx + 7 - 0) % 8 by omega, a.1]
      exact a.2
    · rw [← hre r k hr hk, cpN_in (by omega), Nat.sub_zero, show (nx + 8 - 1) % 8 * 24 + (r * 6 + k) = (nx + 7 - 0) % 8 * 24 + (r * 6 + k) by omega, (b r k hr hk).1]
      exact (b r k hr hk).2
  · refine ⟨by omega, fun j hj => ?_⟩
    rw [e39] at hj ⊢
    obtain ⟨a2, b2⟩ := hg.2 (j + 1) (by omega)
    rw [show ((nx + 8 - 1) % 8 + 7 - j) % 8 = (nx + 7 - (j + 1)) % 8 by omega, ehi _ (by omega), show B 39 - 1 - 1 - j = B 39 - 1 - (j + 1) by omega]
    refine ⟨a2, fun r k hr hk => ?_⟩
    rw [elo 0 (by decide)] at hk
    rw [ehi _ (by omega), show wdB (udB B) k = wdB B k from elo _ (by omega)]
    exact b2 r k hr hk
/-! seed, drift -/
theorem bRl.seed {B : Nat → Nat} {nx : Nat} {kf wf sf : Nat → Int32} {R P D : Nat → Nat} (h : bRl B nx kf wf sf R P D) {d : Nat} (hd : d < 2 ^ 31) : bRl (uN B 14 d) nx kf wf sf R P D :=
  h.mv (mOk_14 h.1 hd) (fun q hq => uN_ne (by omega)) (fun r k hr hk => by unfold rsB; rw [uN_ne (by have := h.1.n; omega)]; exact h.2.2.2.2.1 r k hr hk) (rg_cg h.2.2.2.2.2 h.1.2.2.2.1 h.1.n (uN_ne (by decide)) (fun k hk => uN_ne (by have := h.1.n; omega)) (fun q hq _ => uN_ne (by omega)))
theorem dfB_lo {B : Nat → Nat} {q : Nat} (hq : q < 14) : dfB B q = B q := by
  unfold dfB
  split
  · rw [uN_ne (by omega), dfC0_lo hq]
  · rw [dfC0_lo hq]
theorem dfC0_hi {B : Nat → Nat} (h6 : B 0 ≤ 6) {d q : Nat} (hq : 39 ≤ q) : dfC0 B d q = mdB B q := by
  unfold dfC0
  rw [rwB_hi (by omega) h6 hq, uN_ne (by omega)]
theorem dfB_hi {B : Nat → Nat} (h6 : B 0 ≤ 6) {q : Nat} (hq : 39 ≤ q) : dfB B q = mdB B q := by
  unfold dfB
  split
  · rename_i h
    have := Nat.mod_lt (lcg (B 14) / 256) h.1
    rw [uN_ne (by omega), dfC0_hi h6 hq]
  · rw [dfC0_hi h6 hq]
theorem dfB_14 {B : Nat → Nat} : dfB B 14 = lcg (B 14) := by
  unfold dfB
  split
  · rw [uN_ne (by omega), dfC0_14]
  · rw [dfC0_14]
theorem rwN_re {n r : Nat} {F G R Q : Nat → Nat} (hF : ∀ k, k < n → F k = G k) (h : ∀ r k, r < 4 → k < n → R (r * 6 + k) = Q (r * 6 + k)) (hn : n ≤ 6) : ∀ r2 k, r2 < 4 → k < n → rwN r F n R (r2 * 6 + k) = rwN r G n Q (r2 * 6 + k) := fun r2 k hr2 hk => by
  unfold rwN
  by_cases q : r2 = r
  · subst q
    rw [if_pos (by omega), if_pos (by omega), Nat.add_sub_cancel_left]
    exact hF k hk
  · rw [if_neg (by omega), if_neg (by omega)]
    exact h r2 k hr2 hk
theorem re_df {B R : Nat → Nat} (h : reR (B 0) R B) (h6 : B 0 ≤ 6) : reR (B 0) (dfR (B 0) (kdB B) (wdB B) R (lcg (B 14))) (dfB B) := by
  generalize hd : lcg (B 14) = d
  have hr4 : d / 65536 % 4 < 4 := Nat.mod_lt _ (by decide)
  have ho4 : d / 128 % 4 < 4 := Nat.mod_lt _ (by decide)
  have hF : ∀ k, k < B 0 → adF (kdB B) (wdB B) R (d / 65536 % 4) (d / 128 % 4) k = adF (kdB B) (wdB B) (rsB B) (d / 65536 % 4) (d / 128 % 4) k := fun k hk => by
    unfold adF
    rw [h _ k hr4 hk, h _ k ho4 hk]
  have h1 := rwN_re (r := d / 65536 % 4) hF h h6
  intro r k hr hk
  unfold dfR dfB
  rw [hd]
  by_cases q : 0 < B 0 ∧ d / 2048 % 5 = 0
  · have hm := Nat.mod_lt (d / 256) q.1
    rw [if_pos q, if_pos q]
    by_cases e : r * 6 + k = d / 65536 % 4 * 6 + d / 256 % B 0
    · rw [e, uN_eq]
      unfold rsB
      rw [show 15 + (d / 65536 % 4 * 6 + d / 256 % B 0) = 15 + 6 * (d / 65536 % 4) + d / 256 % B 0 by omega, uN_eq]
      have e2 := dfC0_rs h6 (B := B) (d := d) (i := d / 65536 % 4 * 6 + d / 256 % B 0) (by omega)
      unfold rsB at e2
      rw [h1 _ _ hr4 hm]
      unfold rsB
      rw [show 15 + (d / 65536 % 4 * 6 + d / 256 % B 0) = 15 + 6 * (d / 65536 % 4) + d / 256 % B 0 by omega] at e2
      rw [e2]
    · rw [uN_ne e]
      unfold rsB
      rw [uN_ne (by omega), h1 r k hr hk]
      exact (dfC0_rs h6 (B := B) (d := d) (by omega)).symm
  · rw [if_neg q, if_neg q, h1 r k hr hk]
    exact (dfC0_rs h6 (B := B) (d := d) (by omega)).symm
theorem bRl.df {B : Nat → Nat} {nx : Nat} {kf wf sf : Nat → Int32} {R P D : Nat → Nat} (h : bRl B nx kf wf sf R P D) : bRl (dfB B) ((nx + 1) % 8) kf wf sf (dfR (B 0) (kdB B) (wdB B) R (lcg (B 14))) (cpN R P 0 (nx * 24) 24) (uN D nx (B 14)) :=
  h.push (mOk_df h.1) (fun q hq => dfB_lo hq) (fun q hq => dfB_hi h.1.n hq) (re_df h.2.2.2.2.1 h.1.n)
theorem dfR_cg {n : Nat} {K W V L R : Nat → Nat} (hK : ∀ j, j < n → K j = L j) (hW : ∀ j, j < n → W j = V j) (hn : n ≤ 6) (d : Nat) : dfR n K W R d = dfR n L V R d := by
  have e : rwN (d / 65536 % 4) (adF K W R (d / 65536 % 4) (d / 128 % 4)) n R = rwN (d / 65536 % 4) (adF L V R (d / 65536 % 4) (d / 128 % 4)) n R := by
    funext i
    unfold rwN
    split
    · rename_i h
      unfold adF
      rw [hK _ (by omega), hW _ (by omega)]
    · rfl
  unfold dfR
  rw [e]
  by_cases q : 0 < n ∧ d / 2048 % 5 = 0
  · rw [if_pos q, if_pos q, hW _ (Nat.mod_lt _ q.1)]
  · rw [if_neg q, if_neg q]
theorem bRl.dfJ {B : Nat → Nat} {nx : Nat} {kf wf sf : Nat → Int32} {R P D : Nat → Nat} (h : bRl B nx kf wf sf R P D) : ∀ t, (∀ q, q < 14 → dfI B t q = B q) ∧ (dIt (B 0) (kdB B) (wdB B) (B 14, B 39, nx, R, P, D) t).1 = dfI B t 14 ∧ (dIt (B 0) (kdB B) (wdB B) (B 14, B 39, nx, R, P, D) t).2.1 = dfI B t 39 ∧ bRl (dfI B t) (dIt (B 0) (kdB B) (wdB B) (B 14, B 39, nx, R, P, D) t).2.2.1 kf wf sf (dIt (B 0) (kdB B) (wdB B) (B 14, B 39, nx, R, P, D) t).2.2.2.1 (dIt (B 0) (kdB B) (wdB B) (B 14, B 39, nx, R, P, D) t).2.2.2.2.1 (dIt (B 0) (kdB B) (wdB B) (B 14, B 39, nx, R, P, D) t).2.2.2.2.2
  | 0 => ⟨fun _ _ => rfl, rfl, rfl, h⟩
  | t + 1 => by
    obtain ⟨a, b, c, d⟩ := bRl.dfJ h t
    have h6 := h.1.n
    have e0 := a 0 (by decide)
    have key := d.df
    rw [show dfI B (t + 1) = dfB (dfI B t) from rfl, show dIt (B 0) (kdB B) (wdB B) (B 14, B 39, nx, R, P, D) (t + 1) = dStep (B 0) (kdB B) (wdB B) (dIt (B 0) (kdB B) (wdB B) (B 14, B 39, nx, R, P, D) t) from rfl]
    generalize dIt (B 0) (kdB B) (wdB B) (B 14, B 39, nx, R, P, D) t = T at *
    unfold dStep
    refine ⟨fun q hq => (dfB_lo hq).trans (a q hq), ?_, ?_, ?_⟩
    · show lcg T.1 = _
      rw [dfB_14, b]
    · show min (T.2.1 + 1) 8 = _
      rw [dfB_hi d.1.n (Nat.le_refl _), mdB_39 d.1.2.2.2.1, c]
    · show bRl (dfB (dfI B t)) ((T.2.2.1 + 1) % 8) kf wf sf (dfR (B 0) (kdB B) (wdB B) T.2.2.2.1 (lcg T.1)) (cpN T.2.2.2.1 T.2.2.2.2.1 0 (T.2.2.1 * 24) 24) (uN T.2.2.2.2.2 T.2.2.1 T.1)
      rw [b, dfR_cg (K := kdB B) (W := wdB B) (L := kdB (dfI B t)) (V := wdB (dfI B t)) (fun j hj => (a _ (by omega)).symm) (fun j hj => (a _ (by omega)).symm) h6, ← e0]
      exact key
