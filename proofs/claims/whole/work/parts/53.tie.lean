/-! the two sides tied: the wheels in use, the image, the sheets -/
def nRl (n h rg sp dr kn nx : Nat) (kf wf sf : Nat → Int32) (R P D B : Nat → Nat) : Prop := n = B 0 ∧ h = B 1 ∧ rg = rgB B ∧ sp = spB B ∧ dr = B 14 ∧ kn = B 39 ∧ bRl B nx kf wf sf R P D
def kRl (im : Bool) (n h rg sp dr kn nx : Nat) (kf wf sf : Nat → Int32) (R P D B : Nat → Nat) : Prop := im = true → ∃ C, (∀ j, j < 240 → C j = B (240 + j)) ∧ nRl n h rg sp dr kn nx kf wf sf R P D C
def shR (Sz Ln : Nat → Nat) (Rw : Nat → Nat → Int64) (It : Nat → Int64) : Prop := (∀ j, j < 4 → Sz j ≤ 24) ∧ (∀ j, j < 4 → Ln j ≤ 3) ∧ ∀ j k, j < 4 → k < 24 → Rw j k = It (24 * j + k)
def uR (Rw : Nat → Nat → Int64) (s : Nat) (row : Nat → Int64) : Nat → Nat → Int64 := fun j => if j = s then row else Rw j
theorem uR_eq {Rw : Nat → Nat → Int64} {s : Nat} {row : Nat → Int64} : uR Rw s row s = row := if_pos rfl
theorem uR_ne {Rw : Nat → Nat → Int64} {s j : Nat} {row : Nat → Int64} (h : j ≠ s) : uR Rw s row j = Rw j := if_neg h
theorem uB_eq {g : Nat → Bool} {s : Nat} {x : Bool} : uB g s x s = x := if_pos rfl
theorem uB_ne {g : Nat → Bool} {s j : Nat} {x : Bool} (h : j ≠ s) : uB g s x j = g j := if_neg h
section TIE
variable {B C : Nat → Nat} {n h rg sp dr kn nx : Nat} {kf wf sf kf2 wf2 sf2 : Nat → Int32} {R P D R2 P2 D2 F G : Nat → Nat} {im : Bool} {n1 h1 rg1 sp1 dr1 kn1 nx1 : Nat} {kf1 wf1 sf1 : Nat → Int32} {R1 P1 D1 : Nat → Nat}
theorem kRl.mv (q : kRl im n1 h1 rg1 sp1 dr1 kn1 nx1 kf1 wf1 sf1 R1 P1 D1 B) (e : ∀ j, j < 240 → C (240 + j) = B (240 + j)) : kRl im n1 h1 rg1 sp1 dr1 kn1 nx1 kf1 wf1 sf1 R1 P1 D1 C := fun hi => by
  obtain ⟨X, a, b⟩ := q hi
  exact ⟨X, fun j hj => (a j hj).trans (e j hj).symm, b⟩
theorem nRl.of (q : bRl C nx kf wf sf R P D) (hB : mOk B) (hlo : ∀ q, q < 14 → C q = B q) (h14 : dr = C 14) (h39 : kn = C 39) : nRl (B 0) (B 1) (rgB B) (spB B) dr kn nx kf wf sf R P D C :=
  ⟨(hlo 0 (by decide)).symm, (hlo 1 (by decide)).symm, (rg_lo hlo hB.n hB.2.1).1.symm, (rg_lo hlo hB.n hB.2.1).2.symm, h14, h39, q⟩
theorem nRl.rf (q : bRl B nx kf wf sf R P D) : nRl (B 0) (B 1) (rgB B) (spB B) (B 14) (B 39) nx kf wf sf R P D B := ⟨rfl, rfl, rfl, rfl, rfl, rfl, q⟩
theorem mdB_far (h8 : B 39 ≤ 8) {q : Nat} (hq : 240 ≤ q) : mdB B q = B q := by
  have e := md1_39 h8
  unfold mdB
  rw [uN_ne (by omega), cpN_out (by omega)]
  unfold md1
  split
  · rw [uN_ne (by omega), cpN_out (by omega)]
  · rfl
theorem nRl.rw (q : bRl B nx kf wf sf R P D) {r N : Nat} (hr : r < 4) (hn : B 0 ≤ N) (hN : N ≤ 6) (hF : ∀ k, k < B 0 → F k = G k) (hG : ∀ k, k < B 0 → G k < wdB B k) : nRl (B 0) (B 1) (rgB B) (spB B) (B 14) (min (B 39 + 1) 8) ((nx + 1) % 8) kf wf sf (rwN r F (B 0) R) (cpN R P 0 (nx * 24) 24) (uN D nx (B 14)) (rwB r G N (mdB B)) :=
  nRl.of (q.rw hr hn hN hF hG) q.1 rwB_l14 (by rw [rwB_lo (by decide), mdB_lo (by decide)]) (by rw [rwB_hi hr hN (by decide), mdB_39 q.1.2.2.2.1])
theorem kRl.rw (k : kRl im n1 h1 rg1 sp1 dr1 kn1 nx1 kf1 wf1 sf1 R1 P1 D1 B) (h8 : B 39 ≤ 8) {r N : Nat} (hr : r < 4) (hN : N ≤ 6) : kRl im n1 h1 rg1 sp1 dr1 kn1 nx1 kf1 wf1 sf1 R1 P1 D1 (rwB r G N (mdB B)) :=
  k.mv (fun j hj => by rw [rwB_hi hr hN (by omega), mdB_far h8 (by omega)])
theorem vR_rw (q : bRl B nx kf wf sf R P D) {S : Nat → Nat} (hS : shOk (B 0) (wdB B) S (spB B)) {r N : Nat} (hr : r < 4) (hn : B 0 ≤ N) (hN : N ≤ 6) (hF : ∀ k, k < B 0 → F k = G k) (hG : ∀ k, k < B 0 → G k < wdB B k) : vR S (rwN r F (B 0) R) (spB B) (B 0) r = VB (rwB r G N (mdB B)) r :=
  vR_op (q.rw hr hn hN hF hG) rwB_l14 q.1 hS hr
theorem nRl.slip (q : bRl B nx kf wf sf R P D) {r k x : Nat} (hr : r < 4) (hk : k < B 0) (hx : x < wdB B k) : nRl (B 0) (B 1) (rgB B) (spB B) (B 14) (min (B 39 + 1) 8) ((nx + 1) % 8) kf wf sf (uN R (r * 6 + k) x) (cpN R P 0 (nx * 24) 24) (uN D nx (B 14)) (uN (mdB B) (15 + (6 * r) + k) x) := by
  have h6 := q.1.n
  exact nRl.of (q.slip hr hk hx) q.1 (fun q hq => by rw [uN_ne (by omega), mdB_lo (by omega)]) (by rw [uN_ne (by omega), mdB_lo (by decide)]) (by rw [uN_ne (by omega), mdB_39 q.1.2.2.2.1])
theorem kRl.slip (k : kRl im n1 h1 rg1 sp1 dr1 kn1 nx1 kf1 wf1 sf1 R1 P1 D1 B) (h8 : B 39 ≤ 8) (h6 : B 0 ≤ 6) {r w x : Nat} (hr : r < 4) (hw : w < B 0) : kRl im n1 h1 rg1 sp1 dr1 kn1 nx1 kf1 wf1 sf1 R1 P1 D1 (uN (mdB B) (15 + (6 * r) + w) x) :=
  k.mv (fun j hj => by rw [uN_ne (by omega), mdB_far h8 (by omega)])
theorem udB_lo {q : Nat} (hq : q < 14) : udB B q = B q := by unfold udB; rw [cpN_out (by omega), uN_ne (by omega)]
theorem udB_far {q : Nat} (hq : 40 ≤ q) : udB B q = B q := by unfold udB; rw [cpN_out (by omega), uN_ne (by omega)]
theorem nRl.undo (q : bRl B nx kf wf sf R P D) (h0 : 0 < B 39) : nRl (B 0) (B 1) (rgB B) (spB B) (D ((nx + 8 - 1) % 8)) (B 39 - 1) ((nx + 8 - 1) % 8) kf wf sf (cpN P R ((nx + 8 - 1) % 8 * 24) 0 24) P D (udB B) := by
  obtain ⟨a, b, c⟩ := q.undo h0
  exact nRl.of a q.1 (fun _ hq => udB_lo hq) b.symm c.symm
theorem nRl.seed (q : bRl B nx kf wf sf R P D) {d : Nat} (hd : d < 2 ^ 31) : nRl (B 0) (B 1) (rgB B) (spB B) d (B 39) nx kf wf sf R P D (uN B 14 d) :=
  nRl.of (q.seed hd) q.1 (fun _ hq => uN_ne (by omega)) uN_eq.symm (uN_ne (by decide)).symm
theorem dfI_far (q : bRl B nx kf wf sf R P D) {j : Nat} (hj : 240 ≤ j) : ∀ t, dfI B t j = B j
  | 0 => rfl
  | t + 1 => by
    have hm := (q.dfJ t).2.2.2.1
    rw [show dfI B (t + 1) = dfB (dfI B t) from rfl, dfB_hi hm.n (by omega), mdB_far hm.2.2.2.1 hj, dfI_far q hj t]
theorem nRl.drift (q : bRl B nx kf wf sf R P D) (t : Nat) : nRl (B 0) (B 1) (rgB B) (spB B) (dIt (B 0) (kdB B) (wdB B) (B 14, B 39, nx, R, P, D) t).1 (dIt (B 0) (kdB B) (wdB B) (B 14, B 39, nx, R, P, D) t).2.1 (dIt (B 0) (kdB B) (wdB B) (B 14, B 39, nx, R, P, D) t).2.2.1 kf wf sf (dIt (B 0) (kdB B) (wdB B) (B 14, B 39, nx, R, P, D) t).2.2.2.1 (dIt (B 0) (kdB B) (wdB B) (B 14, B 39, nx, R, P, D) t).2.2.2.2.1 (dIt (B 0) (kdB B) (wdB B) (B 14, B 39, nx, R, P, D) t).2.2.2.2.2 (dfI B t) := by
  obtain ⟨a, b, c, d⟩ := q.dfJ t
  exact nRl.of d q.1 a b c
theorem lg_drift (q : bRl B nx kf wf sf R P D) {S : Nat → Nat} (hS : shOk (B 0) (wdB B) S (spB B)) (t : Nat) : orS (fun r => decide (vR S (dIt (B 0) (kdB B) (wdB B) (B 14, B 39, nx, R, P, D) t).2.2.2.1 (spB B) (B 0) r < rgB B)) 4 = orS (fun r => decide (VB (dfI B t) r < rgB (dfI B t))) 4 := by
  obtain ⟨a, b, c, d⟩ := q.dfJ t
  refine orS_cg (fun r hr => ?_)
  rw [vR_op d a q.1 hS hr, (rg_lo a q.1.n q.1.2.1).1]
theorem lg_now (q : bRl B nx kf wf sf R P D) {S : Nat → Nat} (hS : shOk (B 0) (wdB B) S (spB B)) : orS (fun r => decide (vR S R (spB B) (B 0) r < rgB B)) 4 = orS (fun r => decide (VB B r < rgB B)) 4 :=
  orS_cg (fun r hr => by rw [vR_VB q.1 hS q.2.2.2.2.1 hr])
/-! the same memory below 240; the same rows below their lengths -/
theorem bRl.cg (q : bRl B nx kf wf sf R P D) (e : ∀ j, j < 240 → C j = B j) : bRl C nx kf wf sf R P D := by
  have h6 := q.1.n
  refine q.mv (mOk_rs q.1 (fun j hj => e j (by omega)) (by rw [e 14 (by decide)]; exact q.1.2.2.2.2) (by rw [e 39 (by decide)]; exact q.1.2.2.2.1) (fun r k hr hk => ?_)) (fun j hj => e j (by omega)) (fun r k hr hk => ?_) (rg_cg q.2.2.2.2.2 q.1.2.2.2.1 h6 (e 0 (by decide)) (fun k hk => e _ (by omega)) (fun j _ hj => e j hj))
  · unfold rsB
    rw [e _ (by omega)]
    exact q.1.row hr k hk
  · unfold rsB
    rw [e _ (by omega)]
    exact q.2.2.2.2.1 r k hr hk
theorem bRl.ext (q : bRl B nx kf wf sf R P D) (e1 : ∀ j, j < 6 → kf2 j = kf j) (e2 : ∀ j, j < 6 → wf2 j = wf j) (e3 : ∀ j, j < 6 → sf2 j = sf j) (e4 : ∀ j, j < 24 → R2 j = R j) (e5 : ∀ j, j < 192 → P2 j = P j) (e6 : ∀ j, j < 8 → D2 j = D j) : bRl B nx kf2 wf2 sf2 R2 P2 D2 := by
  have h6 := q.1.n
  obtain ⟨S, s1, s2⟩ := q.2.2.2.1
  have hg := q.2.2.2.2.2
  refine ⟨q.1, fun j hj => ?_, fun j hj => ?_, ⟨S, fun j hj => ?_, s2⟩, fun r k hr hk => ?_, hg.1, fun j hj => ?_⟩
  · rw [e1 j (by omega)]; exact q.2.1 j hj
  · rw [e2 j (by omega)]; exact q.2.2.1 j hj
  · rw [e3 j (by omega)]; exact s1 j hj
  · rw [e4 _ (by omega)]; exact q.2.2.2.2.1 r k hr hk
  · obtain ⟨a, b⟩ := hg.2 j hj
    have hm : (nx + 7 - j) % 8 < 8 := Nat.mod_lt _ (by decide)
    refine ⟨?_, fun r k hr hk => ?_⟩
    · rw [e6 _ hm]; exact a
    · rw [e5 _ (by omega)]; exact b r k hr hk
theorem cpy_in {α : Type} {f g : Nat → α} {k j : Nat} (h : j < k) : va_cpy f g 0 0 k j = f j := by
  unfold va_cpy
  rw [if_pos (by omega), Nat.zero_add, Nat.sub_zero]
theorem cpN_lo {f g : Nat → Nat} {k j : Nat} (h : j < k) : cpN f g 0 0 k j = f j := by
  rw [cpN_in (by omega), Nat.zero_add, Nat.sub_zero]
theorem im_lo {q : Nat} (hq : q < 240) : cpN B B 0 240 240 q = B q := cpN_out (by omega)
theorem im_hi {j : Nat} (hj : j < 240) : B j = cpN B B 0 240 240 (240 + j) := by
  rw [cpN_in (by omega), show 0 + (240 + j - 240) = j by omega]
theorem nRl.image (q : bRl B nx kf wf sf R P D) : nRl (B 0) (B 1) (rgB B) (spB B) (B 14) (B 39) nx kf wf sf R P D (cpN B B 0 240 240) :=
  nRl.of (q.cg (fun _ h => im_lo h)) q.1 (fun _ h => im_lo (by omega)) (im_lo (by decide)).symm (im_lo (by decide)).symm
theorem kRl.image (q : bRl B nx kf wf sf R P D) : kRl true (B 0) (B 1) (rgB B) (spB B) (B 14) (B 39) nx (va_cpy kf kf1 0 0 6) (va_cpy wf wf1 0 0 6) (va_cpy sf sf1 0 0 6) (cpN R R1 0 0 24) (cpN P P1 0 0 192) (cpN D D1 0 0 8) (cpN B B 0 240 240) := fun _ =>
  ⟨B, fun _ hj => im_hi hj, nRl.rf (q.ext (fun _ h => cpy_in h) (fun _ h => cpy_in h) (fun _ h => cpy_in h) (fun _ h => cpN_lo h) (fun _ h => cpN_lo h) (fun _ h => cpN_lo h))⟩
theorem nRl.restore (k : kRl im n1 h1 rg1 sp1 dr1 kn1 nx1 kf1 wf1 sf1 R1 P1 D1 B) (hi : im = true) : nRl n1 h1 rg1 sp1 dr1 kn1 nx1 (va_cpy kf1 kf 0 0 6) (va_cpy wf1 wf 0 0 6) (va_cpy sf1 sf 0 0 6) (cpN R1 R 0 0 24) (cpN P1 P 0 0 192) (cpN D1 D 0 0 8) (cpN B B 240 0 240) := by
  obtain ⟨X, a, b0, b1, b2, b3, b4, b5, q⟩ := k hi
  have e : ∀ j, j < 240 → cpN B B 240 0 240 j = X j := fun j hj => by
    rw [cpN_in (by omega), a j hj, Nat.sub_zero]
  subst b0; subst b1; subst b2; subst b3; subst b4; subst b5
  exact nRl.of ((q.ext (fun _ h => cpy_in h) (fun _ h => cpy_in h) (fun _ h => cpy_in h) (fun _ h => cpN_lo h) (fun _ h => cpN_lo h) (fun _ h => cpN_lo h)).cg e) q.1 (fun j hj => e j (by omega)) (e 14 (by decide)).symm (e 39 (by decide)).symm
theorem kRl.restore (k : kRl im n1 h1 rg1 sp1 dr1 kn1 nx1 kf1 wf1 sf1 R1 P1 D1 B) : kRl im n1 h1 rg1 sp1 dr1 kn1 nx1 kf1 wf1 sf1 R1 P1 D1 (cpN B B 240 0 240) := k.mv (fun j hj => cpN_out (by omega))
end TIE
/-! a set that is taken -/
section SETB
variable {B R : Nat → Nat} {k h : Nat}
theorem stB_0 : stB B k h R 0 = k := by unfold stB stZ stK uN; simp
theorem stB_1 : stB B k h R 1 = h := by unfold stB stZ stK uN; simp
theorem stB_14 (hk : k ≤ 6) : stB B k h R 14 = B 14 := by
  unfold stB stZ stK
  rw [uN_ne (by decide), if_neg (by decide), if_neg (by omega), if_neg (by omega), uN_ne (by decide), uN_ne (by decide)]
theorem stB_39 : stB B k h R 39 = 0 := uN_eq
theorem stB_far (hk : k ≤ 6) {q : Nat} (hq : 40 ≤ q) : stB B k h R q = B q := by
  unfold stB stZ stK
  rw [uN_ne (by omega), if_neg (by omega), if_neg (by omega), if_neg (by omega), uN_ne (by omega), uN_ne (by omega)]
theorem stB_kd (hk : k ≤ 6) {j : Nat} (hj : j < k) : kdB (stB B k h R) j = rdK R j := by
  unfold kdB stB stZ stK rdK
  rw [uN_ne (by omega), if_neg (by omega), if_pos (by omega), Nat.add_sub_cancel_left]
theorem stB_wd (hk : k ≤ 6) {j : Nat} (hj : j < k) : wdB (stB B k h R) j = rdW R j := by
  unfold wdB stB stZ stK rdW
  rw [uN_ne (by omega), if_neg (by omega), if_neg (by omega), if_pos (by omega), Nat.add_sub_cancel_left]
theorem stB_rs {i : Nat} (hi : i < 24) : rsB (stB B k h R) i = 0 := by
  unfold rsB stB stZ
  rw [uN_ne (by omega), if_pos (by omega)]
end SETB
theorem wOk_cg {n : Nat} {K W L V : Nat → Nat} (ok : wOk n K W) (eK : ∀ j, j < n → L j = K j) (eW : ∀ j, j < n → V j = W j) : wOk n L V :=
  ⟨ok.1, fun j hj => by rw [eK j hj]; exact ok.2.1 j hj, fun j hj => by rw [eW j hj]; exact ok.2.2.1 j hj, fun i j hij hj => by rw [eW i (by omega), eW j hj]; exact ok.2.2.2 i j hij hj⟩
theorem nRl.set {B Rr P D K W Q : Nat → Nat} {nx k h : Nat} {kf wf sf sf2 : Nat → Int32} {rg sp : Nat} (h14 : B 14 < 2 ^ 31) (hnx : nx < 8) (ok : wOk k K W) (hh : h ≤ k) (hrg : rg = prW W h) (hsp : sp = prW W k) (al : alW k K W Q) : nRl k h rg sp (B 14) 0 nx (va_cpy (nA K) kf 0 0 6) (va_cpy (nA W) wf 0 0 6) (va_cpy (shF W sp sf2 k) sf 0 0 6) (zN 24 Rr) P D (stB B k h Q) := by
  have h6 := ok.1
  have eK : ∀ j, j < k → kdB (stB B k h Q) j = K j := fun j hj => (stB_kd h6 hj).trans (al j hj).1.symm
  have eW : ∀ j, j < k → wdB (stB B k h Q) j = W j := fun j hj => (stB_wd h6 hj).trans (al j hj).2.symm
  have ok2 : wOk (stB B k h Q 0) (kdB (stB B k h Q)) (wdB (stB B k h Q)) := by rw [stB_0]; exact wOk_cg ok eK eW
  have epr : ∀ j, j ≤ k → prW (wdB (stB B k h Q)) j = prW W j := fun j hj => prW_cg (fun i hi => eW i (by omega))
  have e1 : rgB (stB B k h Q) = prW W h := by unfold rgB; rw [stB_1]; exact epr h hh
  have e2 : spB (stB B k h Q) = prW W k := by unfold spB; rw [stB_0]; exact epr k (Nat.le_refl k)
  subst hrg; subst hsp
  refine ⟨stB_0.symm, stB_1.symm, e1.symm, e2.symm, (stB_14 h6).symm, stB_39.symm, ?_⟩
  refine ⟨⟨ok2, ?_, ?_, ?_, ?_⟩, ?_, ?_, ?_, ?_, hnx, ?_⟩
  · rw [stB_0, stB_1]; exact hh
  · intro r j hr hj
    rw [stB_0] at hj
    rw [stB_rs (by omega), eW j hj]
    have := ok.2.2.1 j hj
    omega
  · rw [stB_39]; omega
  · rw [stB_14 h6]; exact h14
  · intro j hj
    rw [stB_0] at hj
    rw [cpy_in (by omega), eK j hj]
    rfl
  · intro j hj
    rw [stB_0] at hj
    rw [cpy_in (by omega), eW j hj]
    rfl
  · obtain ⟨S, s1, s2⟩ := sh_all ok sf2
    refine ⟨S, ?_, ?_⟩
    · intro j hj
      rw [stB_0] at hj
      rw [cpy_in (by omega)]
      exact s1 j hj
    · rw [stB_0, e2]
      exact shOk_cg s2 eW
  · intro r j hr hj
    rw [stB_0] at hj
    rw [stB_rs (by omega)]
    unfold zN
    rw [if_pos (by omega)]
  · intro j hj
    rw [stB_39] at hj
    exact absurd hj (Nat.not_lt_zero _)
/-! sheets -/
theorem shR.row {Sz Ln : Nat → Nat} {Rw : Nat → Nat → Int64} {It It2 : Nat → Int64} {s : Nat} {row : Nat → Int64} (q : shR Sz Ln Rw It) (hs : s < 4) (e1 : ∀ k, k < 24 → row k = It2 (24 * s + k)) (e2 : ∀ j, j < 24 * s ∨ 24 * s + 24 ≤ j → It2 j = It j) : shR Sz Ln (uR Rw s row) It2 := by
  refine ⟨q.1, q.2.1, fun j k hj hk => ?_⟩
  by_cases h : j = s
  · subst h
    rw [uR_eq]
    exact e1 k hk
  · rw [uR_ne h, q.2.2 j k hj hk, e2 _ (by omega)]
theorem shR.new {Sz Ln : Nat → Nat} {Rw : Nat → Nat → Int64} {It : Nat → Int64} {s a z : Nat} (q : shR Sz Ln Rw It) (ha : a < 4) (hz : z ≤ 24) : shR (uN Sz s z) (uN Ln s a) Rw It := by
  refine ⟨fun j hj => ?_, fun j hj => ?_, q.2.2⟩
  · unfold uN; split
    · exact hz
    · exact q.1 j hj
  · unfold uN; split
    · omega
    · exact q.2.1 j hj
