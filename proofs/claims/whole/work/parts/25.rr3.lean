/-! contracts whose scratch row isn't told -/
def qVs (D : va_G) (cl : List vw_C) (ws : (Nat → Nat) → va_W) (A : Nat → Prop) : Array Value → State → Outcome → State → Prop := va_Qv (fun _ : Nat → Nat => True) (fun u t => va_P D cl (ws u) t.heap ∧ va_D A (ws u)) A
def qIs (r : Int32) (D : va_G) (cl : List vw_C) (ws : (Nat → Nat) → va_W) (A : Nat → Prop) : Array Value → State → Outcome → State → Prop := va_Qi (fun v (_ : Nat → Nat) => v = r) (fun u t => va_P D cl (ws u) t.heap ∧ va_D A (ws u)) A
section RWS
variable {p : Program} {l : Launch} {e : Env} {R : Room} {s : State} {m : MethodId} {args : Array Value} {below : List Frame} {meth : Method} {c : Code} {H : Heap} {locs : List Loc} {cells slots : Nat} {Q : State → Prop}
variable {cc : ByteArray} {pc : Nat} {ls : Array Slot} {rest st0 : List Value} {D : va_G} {cl : List vw_C} {ws wc wr : va_W} {w1 wu : (Nat → Nat) → va_W} {A0 A : Nat → Prop} {H0 : Heap} {a : Array Value}
theorem rw_callvs (hr : va_Run p l e R s m args below meth c H locs cells slots 0 0 (F0 m pc ls st0) rest (qVs D cl w1 (va_A wc H.size) a) (va_A wc H.size)) (hP : va_P D cl ws H) (hD : va_D A0 ws) (hS : va_S A0 H0 H locs) (hA : ∀ q, H0.size ≤ q → A0 q) (isC isR : List Nat) (hC : isC.map (fun i => ws[i]?) = wc.map some) (hR : isR.map (fun i => ws[i]?) = wr.map some) (hn : va_nd isR = true) (hdis : ∀ i ∈ isR, i ∉ isC) (kk : ∀ (u : Nat → Nat) (H1 : Heap) (locs1 : List Loc), va_P D cl (wr ++ w1 u) H1 → va_D A0 (wr ++ w1 u) → va_S A0 H0 H1 locs1 → W p l e R s m args below meth c H1 locs1 cells slots Q (F0 m (pc + 3) ls rest)) : W p l e R s m args below meth c H locs cells slots Q (F0 m pc ls st0) := by
  have hF := va_free hD hS hA isC hC
  refine va_callv hr hS (fun q _ h => hF q h) hF (fun u t H1 locs1 ht hvm hw hB hz hk hS1 => ?_)
  obtain ⟨hP1, hD1⟩ := hB
  rw [ht] at hP1
  obtain ⟨hPj, hDj⟩ := va_join hP hD isC isR hC hR hn hdis hk hF hP1 hD1
  exact kk u H1 locs1 hPj hDj hS1
theorem rw_callis {r : Int32} (hr : va_Run p l e R s m args below meth c H locs cells slots 0 0 (F0 m pc ls st0) rest (qIs r D cl w1 (va_A wc H.size) a) (va_A wc H.size)) (hP : va_P D cl ws H) (hD : va_D A0 ws) (hS : va_S A0 H0 H locs) (hA : ∀ q, H0.size ≤ q → A0 q) (isC isR : List Nat) (hC : isC.map (fun i => ws[i]?) = wc.map some) (hR : isR.map (fun i => ws[i]?) = wr.map some) (hn : va_nd isR = true) (hdis : ∀ i ∈ isR, i ∉ isC) (kk : ∀ (u : Nat → Nat) (H1 : Heap) (locs1 : List Loc), va_P D cl (wr ++ w1 u) H1 → va_D A0 (wr ++ w1 u) → va_S A0 H0 H1 locs1 → W p l e R s m args below meth c H1 locs1 cells slots Q (F0 m (pc + 3) ls (.int r :: rest))) : W p l e R s m args below meth c H locs cells slots Q (F0 m pc ls st0) := by
  have hF := va_free hD hS hA isC hC
  refine va_calli hr hS (fun q _ h => hF q h) hF (fun v u t H1 locs1 ht hvm hw hB hz hk hS1 => ?_)
  obtain ⟨hP1, hD1⟩ := hB
  subst hw
  rw [ht] at hP1
  obtain ⟨hPj, hDj⟩ := va_join hP hD isC isR hC hR hn hdis hk hF hP1 hD1
  exact kk u H1 locs1 hPj hDj hS1
theorem rr_vretWs {u : Nat → Nat} (hexec : p.tables.exec = Jvm.exec) (hb : c.code = cc) (hr : meth.sig.returnType = none) (hlocks : meth.locks = false) (hdg : decode cc pc = .ok (.return_, 1)) (hP : va_P D cl (wu u) H) (hD : va_D A (wu u)) (hS : va_S A s.heap H locs) : W p l e R s m args below meth c H locs cells slots (MQ below (qVs D cl wu A) args s cells slots A) (F0 m pc ls []) := W.vret hexec hb hr (fun t ht _ => ⟨⟨u, rfl, trivial, by rw [ht]; exact hP, hD⟩, hS.F ht⟩) hS.2.2 hdg hlocks
theorem rr_iretWs {u : Nat → Nat} {v r : Int32} (hexec : p.tables.exec = Jvm.exec) (hb : c.code = cc) (hr : meth.sig.returnType = some .int) (hlocks : meth.locks = false) (hdg : decode cc pc = .ok (.ireturn, 1)) (hP : va_P D cl (wu u) H) (hD : va_D A (wu u)) (hS : va_S A s.heap H locs) (h : v = r) : W p l e R s m args below meth c H locs cells slots (MQ below (qIs r D cl wu A) args s cells slots A) (F0 m pc ls [.int v]) := W.iret hexec hb hr (fun t ht _ => ⟨⟨v, u, rfl, h, by rw [ht]; exact hP, hD⟩, hS.F ht⟩) hS.2.2 hdg hlocks
end RWS
theorem rwB_cong {r n m : Nat} {F G B : Nat → Nat} (hn : n = m) (h : ∀ k, k < n → F k = G k) : nA (rwB r F n B) = nA (rwB r G m B) := by
  subst hn
  refine nA_fun (fun i => ?_)
  unfold rwB
  by_cases q : 15 + 6 * r ≤ i ∧ i < 15 + 6 * r + n
  · rw [if_pos q, if_pos q]; exact h _ (by omega)
  · rw [if_neg q, if_neg q]
theorem md_ad {B : Nat → Nat} (h : B 0 ≤ 6) {r o : Nat} (hr : r < 4) (ho : o < 4) : nA (rwB r (adF (kdB (mdB B)) (wdB (mdB B)) (rsB (mdB B)) r o) (mdB B 0) (mdB B)) = nA (rwB r (adF (kdB B) (wdB B) (rsB B) r o) (B 0) (mdB B)) := by
  have e0 : mdB B 0 = B 0 := mdB_lo (by omega)
  refine rwB_cong e0 (fun k hk => ?_)
  rw [e0] at hk
  unfold adF kdB wdB rsB
  rw [mdB_lo (by omega), mdB_lo (by omega), mdB_lo (by omega), mdB_lo (by omega)]
theorem md_ly {B : Nat → Nat} (h : B 0 ≤ 6) (r v : Nat) : nA (rwB r (fun k => v % wdB (mdB B) k) (mdB B 0) (mdB B)) = nA (rwB r (fun k => v % wdB B k) (B 0) (mdB B)) := by
  have e0 : mdB B 0 = B 0 := mdB_lo (by omega)
  refine rwB_cong e0 (fun k hk => ?_)
  rw [e0] at hk
  show v % mdB B (8 + k) = v % B (8 + k)
  rw [mdB_lo (by omega)]
/-- the memory behind minds() and a register that becomes F -/
theorem mOk_op {B F : Nat → Nat} (h : mOk B) {r n : Nat} (hr : r < 4) (hn : n ≤ 6) (hF : ∀ k, k < n → k < B 0 → F k < wdB B k) : mOk (rwB r F n (mdB B)) := by
  refine mOk_rs h (fun j hj => (rwB_lo (by omega)).trans (mdB_lo (by omega))) (by rw [rwB_lo (by omega), mdB_lo (by omega)]; exact h.2.2.2.2) (by rw [rwB_hi hr hn (by omega), mdB_39 h.2.2.2.1]; omega) ?_
  intro r2 k hr2 hk
  have h6 := h.n
  rw [rwB_rs]
  unfold rwN
  by_cases q : r * 6 ≤ r2 * 6 + k ∧ r2 * 6 + k < r * 6 + n
  · have e : r2 = r := by omega
    subst e
    rw [if_pos q, Nat.add_sub_cancel_left]
    exact hF k (by omega) hk
  · rw [if_neg q]
    show mdB B (15 + (r2 * 6 + k)) < wdB B k
    rw [mdB_lo (by omega)]
    exact h.row hr2 k hk
def opB (r : Nat) (F : Nat → Nat) (B : Nat → Nat) : Nat → Nat := rwB r F (B 0) (mdB B)
def dfC0 (B : Nat → Nat) (d : Nat) : Nat → Nat := rwB (d / 65536 % 4) (adF (kdB B) (wdB B) (rsB B) (d / 65536 % 4) (d / 128 % 4)) (B 0) (uN (mdB B) 14 d)
def dfB (B : Nat → Nat) : Nat → Nat := if 0 < B 0 ∧ lcg (B 14) / 2048 % 5 = 0 then uN (dfC0 B (lcg (B 14))) (15 + (6 * (lcg (B 14) / 65536 % 4)) + lcg (B 14) / 256 % B 0) ((rsB (dfC0 B (lcg (B 14))) (lcg (B 14) / 65536 % 4 * 6 + lcg (B 14) / 256 % B 0) + 1) % wdB B (lcg (B 14) / 256 % B 0)) else dfC0 B (lcg (B 14))
def dfI (B : Nat → Nat) : Nat → Nat → Nat | 0 => B | t + 1 => dfB (dfI B t)
theorem dfC0_lo {B : Nat → Nat} {d j : Nat} (h : j < 14) : dfC0 B d j = B j := by
  unfold dfC0
  rw [rwB_lo (by omega), uN_ne (by omega), mdB_lo (by omega)]
theorem dfC0_14 {B : Nat → Nat} {d : Nat} : dfC0 B d 14 = d := by
  unfold dfC0
  rw [rwB_lo (by omega), uN_eq]
theorem dfC0_39 {B : Nat → Nat} (h : B 0 ≤ 6) {d : Nat} : dfC0 B d 39 = mdB B 39 := by
  unfold dfC0
  rw [rwB_hi (by omega) h (by omega), uN_ne (by omega)]
theorem dfC0_rs {B : Nat → Nat} (h : B 0 ≤ 6) {d i : Nat} (hi : i < 24) : rsB (dfC0 B d) i = rwN (d / 65536 % 4) (adF (kdB B) (wdB B) (rsB B) (d / 65536 % 4) (d / 128 % 4)) (B 0) (rsB B) i := by
  unfold dfC0
  rw [rwB_rs]
  unfold rwN
  split
  · rfl
  · show uN (mdB B) 14 d (15 + i) = B (15 + i)
    rw [uN_ne (by omega), mdB_lo (by omega)]
theorem mOk_df0 {B : Nat → Nat} (h : mOk B) (d : Nat) (hd : d < 2 ^ 31) : mOk (dfC0 B d) :=
  mOk_rs h (fun j hj => dfC0_lo hj) (by rw [dfC0_14]; exact hd) (by rw [dfC0_39 h.n, mdB_39 h.2.2.2.1]; omega) (rOk_fun (rOk_rw h.rs h.n (adF_lt (K := kdB B) h.rs (r := d / 65536 % 4) (o := d / 128 % 4) (by omega) (by omega))) h.n (fun i hi => dfC0_rs h.n hi))
theorem mOk_u {B : Nat → Nat} (h : mOk B) {r k x : Nat} (hr : r < 4) (hk : k < B 0) (hx : x < wdB B k) : mOk (uN B (15 + (6 * r) + k) x) := by
  have h6 := h.n
  refine mOk_rs h (fun j hj => uN_ne (by omega)) (by rw [uN_ne (by omega)]; exact h.2.2.2.2) (by rw [uN_ne (by omega)]; exact h.2.2.2.1) ?_
  refine rOk_fun (rOk_u h.rs h.n (r := r) (k := k) (x := x) (by omega) hx) h.n (fun i _ => ?_)
  unfold rsB uN
  by_cases q : i = r * 6 + k
  · rw [if_pos (by omega), if_pos q]
  · rw [if_neg (by omega), if_neg q]
theorem mOk_df {B : Nat → Nat} (h : mOk B) : mOk (dfB B) := by
  have hd : lcg (B 14) < 2 ^ 31 := lcg_lt _
  unfold dfB
  split
  · next q =>
    have hk := Nat.mod_lt (lcg (B 14) / 256) q.1
    have hw := h.wd _ hk
    have h0 := mOk_df0 h (lcg (B 14)) hd
    have e0 : dfC0 B (lcg (B 14)) 0 = B 0 := dfC0_lo (by omega)
    have h6 := h.n
    have ew : wdB (dfC0 B (lcg (B 14))) (lcg (B 14) / 256 % B 0) = wdB B (lcg (B 14) / 256 % B 0) := dfC0_lo (by omega)
    exact mOk_u h0 (by omega) (by rw [e0]; exact hk) (by rw [ew]; exact Nat.mod_lt _ (by omega))
  · exact mOk_df0 h _ hd
theorem mOk_dfI {B : Nat → Nat} (h : mOk B) : ∀ t, mOk (dfI B t)
  | 0 => h
  | t + 1 => mOk_df (mOk_dfI h t)
theorem or_if (s : Nat) (b : Bool) (k : Nat) : (if b then 2 ^ k else 0) = (if b = true then 2 ^ k else 0) := rfl
