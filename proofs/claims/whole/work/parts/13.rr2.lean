/-! System.arraycopy over Nat places; the writing methods' pure pictures -/
section RCP
variable {p : Program} {l : Launch} {e : Env} {R : Room} {s : State} {m : MethodId} {args : Array Value} {below : List Frame} {meth : Method} {c : Code} {H : Heap} {locs : List Loc} {cells slots : Nat} {Q : State → Prop}
variable {cc : ByteArray} {pc : Nat} {ls : Array Slot} {rest : List Value} {D : va_G} {cl : List vw_C} {A : Nat → Prop} {a : Nat} {tys : List (ClassId × FieldType)} {ws : va_W} {H0 : Heap}
theorem rn_copyi (hexec : p.tables.exec = Jvm.exec) (hb : c.code = cc) (hml : c.maxLocals = ls.size) {own : String} {index : Nat} (hown : s.vm.findClass own = some m.cls) (hlink : (Cond.methodLink own index arraycopyName).before args s = true) (hnat : (Cond.native arraycopyName).before args s = true) (hstat : (Cond.static arraycopyName).before args s = true) (hini : (Cond.initialized "java/lang/System").before args s = true)
    (hK : va_K D cl tys s) (hP : va_P D cl ws H) (hD : va_D A ws) (hS : va_S A H0 H locs) (q0 q1 t0 t1 : Nat) {a0 : Nat} {c0 c1 : ClassId} {n0 n1 : Nat} {f g : Nat → Int32} {ty : FieldType} (ha0 : ws[q0]? = some (a0, .inl (c0, n0, .inl f))) (ha1 : ws[q1]? = some (a, .inl (c1, n1, .inl g))) (ht0 : tys[t0]? = some (c0, ty)) (ht1 : tys[t1]? = some (c1, ty)) (hprim : refKind ty = false)
    {sp dp n : Nat} (h4 : sp + n ≤ n0) (h5 : dp + n ≤ n1) (hn0 : n0 < 2 ^ 31) (hn1 : n1 < 2 ^ 31) (hfit : ∀ i, i < n → fits ty (.int (f (sp + i))) = true)
    (hframes : 1 ≤ R.frames) (hlocals : (rest.map fun v => v.category).sum + (nativeFrameWords "java/lang/System" "arraycopy" 5 + 11) ≤ R.locals) (hdg : decode cc pc = .ok (.invokestatic index, 3))
    (kk : ∀ (H1 : Heap) (locs1 : List Loc), va_P D cl (ws.set q1 (a, .inl (c1, n1, .inl (va_cpy f g sp dp n)))) H1 → va_D A (ws.set q1 (a, .inl (c1, n1, .inl (va_cpy f g sp dp n)))) → va_S A H0 H1 locs1 → W p l e R s m args below meth c H1 locs1 cells slots Q (F0 m (pc + 3) ls rest)) : W p l e R s m args below meth c H locs cells slots Q (F0 m pc ls (.int (nI n) :: .int (nI dp) :: .ref a :: .int (nI sp) :: .ref a0 :: rest)) := by
  have e1 : (nI sp).toNatClampNeg = sp := nI_clamp (by omega)
  have e2 : (nI dp).toNatClampNeg = dp := nI_clamp (by omega)
  have e3 : (nI n).toNatClampNeg = n := nI_clamp (by omega)
  refine va_copyi hexec hb hml hown hlink hnat hstat hini hK hP hD hS q0 q1 t0 t1 ha0 ha1 ht0 ht1 hprim (nI_pos (by omega)) (nI_pos (by omega)) (nI_pos (by omega)) (by rw [e1, e3]; exact h4) (by rw [e2, e3]; exact h5) (by rw [e1, e3]; exact hfit) hframes hlocals hdg ?_
  rw [e1, e2, e3]
  exact kk
theorem rn_copyl (hexec : p.tables.exec = Jvm.exec) (hb : c.code = cc) (hml : c.maxLocals = ls.size) {own : String} {index : Nat} (hown : s.vm.findClass own = some m.cls) (hlink : (Cond.methodLink own index arraycopyName).before args s = true) (hnat : (Cond.native arraycopyName).before args s = true) (hstat : (Cond.static arraycopyName).before args s = true) (hini : (Cond.initialized "java/lang/System").before args s = true)
    (hK : va_K D cl tys s) (hP : va_P D cl ws H) (hD : va_D A ws) (hS : va_S A H0 H locs) (q0 q1 t0 t1 : Nat) {a0 : Nat} {c0 c1 : ClassId} {n0 n1 : Nat} {f g : Nat → Int64} {ty : FieldType} (ha0 : ws[q0]? = some (a0, .inl (c0, n0, .inr (.inl f)))) (ha1 : ws[q1]? = some (a, .inl (c1, n1, .inr (.inl g)))) (ht0 : tys[t0]? = some (c0, ty)) (ht1 : tys[t1]? = some (c1, ty)) (hprim : refKind ty = false)
    {sp dp n : Nat} (h4 : sp + n ≤ n0) (h5 : dp + n ≤ n1) (hn0 : n0 < 2 ^ 31) (hn1 : n1 < 2 ^ 31) (hfit : ∀ i, i < n → fits ty (.long (f (sp + i))) = true)
    (hframes : 1 ≤ R.frames) (hlocals : (rest.map fun v => v.category).sum + (nativeFrameWords "java/lang/System" "arraycopy" 5 + 11) ≤ R.locals) (hdg : decode cc pc = .ok (.invokestatic index, 3))
    (kk : ∀ (H1 : Heap) (locs1 : List Loc), va_P D cl (ws.set q1 (a, .inl (c1, n1, .inr (.inl (va_cpy f g sp dp n))))) H1 → va_D A (ws.set q1 (a, .inl (c1, n1, .inr (.inl (va_cpy f g sp dp n))))) → va_S A H0 H1 locs1 → W p l e R s m args below meth c H1 locs1 cells slots Q (F0 m (pc + 3) ls rest)) : W p l e R s m args below meth c H locs cells slots Q (F0 m pc ls (.int (nI n) :: .int (nI dp) :: .ref a :: .int (nI sp) :: .ref a0 :: rest)) := by
  have e1 : (nI sp).toNatClampNeg = sp := nI_clamp (by omega)
  have e2 : (nI dp).toNatClampNeg = dp := nI_clamp (by omega)
  have e3 : (nI n).toNatClampNeg = n := nI_clamp (by omega)
  refine va_copyl hexec hb hml hown hlink hnat hstat hini hK hP hD hS q0 q1 t0 t1 ha0 ha1 ht0 ht1 hprim (nI_pos (by omega)) (nI_pos (by omega)) (nI_pos (by omega)) (by rw [e1, e3]; exact h4) (by rw [e2, e3]; exact h5) (by rw [e1, e3]; exact hfit) hframes hlocals hdg ?_
  rw [e1, e2, e3]
  exact kk
end RCP
def shI (oth w : Nat) (old : Int32) : Nat → Int32 | 0 => old | k + 1 => if oth * k % w = 1 then nI (oth * k) else shI oth w old k
def shF (W : Nat → Nat) (sp : Nat) (sf : Nat → Int32) (j : Nat) : Nat → Int32 := fun i => if i < j then shI (sp / W i) (W i) (sf i) (W i) else sf i
def shG (W : Nat → Nat) (sp : Nat) (sf : Nat → Int32) (j k : Nat) : Nat → Int32 := fun i => if i < j then shI (sp / W i) (W i) (sf i) (W i) else if i = j then shI (sp / W j) (W j) (sf j) k else sf i
theorem shF_0 (W : Nat → Nat) (sp : Nat) (sf : Nat → Int32) : sf = shF W sp sf 0 := by funext i; simp [shF]
theorem shG_1 (W : Nat → Nat) (sp : Nat) (sf : Nat → Int32) (j : Nat) : shF W sp sf j = shG W sp sf j 1 := by
  funext i
  unfold shF shG
  split
  · rfl
  · split
    · next h => subst h; simp [shI]
    · rfl
theorem shG_end (W : Nat → Nat) (sp : Nat) (sf : Nat → Int32) (j : Nat) : shG W sp sf j (W j) = shF W sp sf (j + 1) := by
  funext i
  unfold shF shG
  by_cases h : i < j
  · rw [if_pos h, if_pos (by omega)]
  · rw [if_neg h]
    by_cases h2 : i = j
    · subst h2; rw [if_pos rfl, if_pos (by omega)]
    · rw [if_neg h2, if_neg (by omega)]
theorem shG_no {W : Nat → Nat} {sp : Nat} {sf : Nat → Int32} {j k : Nat} (h : sp / W j * k % W j ≠ 1) : shG W sp sf j k = shG W sp sf j (k + 1) := by
  funext i
  unfold shG
  split
  · rfl
  · split
    · rw [shI, if_neg h]
    · rfl
theorem shG_yes {W : Nat → Nat} {sp : Nat} {sf : Nat → Int32} {j k : Nat} (h : sp / W j * k % W j = 1) : upd (shG W sp sf j k) j (nI (sp / W j * k)) = shG W sp sf j (k + 1) := by
  funext i
  by_cases h2 : i = j
  · subst h2
    rw [pk_us]
    unfold shG
    rw [if_neg (by omega), if_pos rfl, shI, if_pos h]
  · rw [pk_un h2]
    unfold shG
    rw [if_neg h2]
    rw [if_neg h2]
def copB (W : Nat → Nat) (x : Nat) : Nat → Bool | 0 => true | k + 1 => copB W x k && decide (Nat.gcd (W k) x = 1)
def mayB (n : Nat) (W : Nat → Nat) (x : Nat) : Bool := decide (2 ≤ x ∧ x ≤ 19 ∧ n < 6) && copB W x n
theorem copB_f {W : Nat → Nat} {x k : Nat} (h : copB W x k = false) : ∀ n, k ≤ n → copB W x n = false
  | 0, hn => by rw [← Nat.le_zero.mp hn]; exact h
  | n + 1, hn => by
    rcases Nat.lt_or_ge k (n + 1) with q | q
    · rw [copB, copB_f h n (by omega)]; rfl
    · rw [← Nat.le_antisymm hn q]; exact h
theorem cmp_eq {x y : Int64} : lg_cmp x y = 0 ↔ x = y := by
  unfold lg_cmp
  by_cases h1 : y < x
  · rw [if_pos h1]
    constructor
    · intro h; exact absurd h (by decide)
    · intro h; rw [h, Int64.lt_iff_toInt_lt] at h1; omega
  · rw [if_neg h1]
    by_cases h2 : x = y
    · rw [if_pos h2]; exact ⟨fun _ => h2, fun _ => rfl⟩
    · rw [if_neg h2]
      exact ⟨fun h => absurd h (by decide), fun h => absurd h h2⟩
def tldB (row : Nat → Int64) (i : Nat) : Nat → Bool := fun j => !decide (row (i + j) = -1)
def okR (W : Nat → Nat) (row : Nat → Int64) (i : Nat) : Nat → Bool | 0 => true | k + 1 => okR W row i k && decide (-1 ≤ (row (i + k)).toInt ∧ (row (i + k)).toInt < (W k : Int))
theorem okR_f {W : Nat → Nat} {row : Nat → Int64} {i k : Nat} (h : okR W row i k = false) : ∀ n, k ≤ n → okR W row i n = false
  | 0, hn => by rw [← Nat.le_zero.mp hn]; exact h
  | n + 1, hn => by
    rcases Nat.lt_or_ge k (n + 1) with q | q
    · rw [okR, okR_f h n (by omega)]; rfl
    · rw [← Nat.le_antisymm hn q]; exact h
def vF (S : Nat → Nat) (sp : Nat) (row : Nat → Int64) (i : Nat) : Nat → Nat | 0 => 0 | k + 1 => if row (i + k) = -1 then vF S sp row i k else (vF S sp row i k + (row (i + k)).toInt.toNat * S k) % sp
theorem vF_lt {S : Nat → Nat} {sp : Nat} (row : Nat → Int64) (i : Nat) (hs : 0 < sp) : ∀ k, vF S sp row i k < sp
  | 0 => hs
  | k + 1 => by
    rw [vF]
    split
    · exact vF_lt row i hs k
    · exact Nat.mod_lt _ hs
def lfI (n : Nat) (W S : Nat → Nat) (sp rg : Nat) (row : Nat → Int64) (i : Nat) : Int32 := if okR W row i n then (if vF S sp row i n % prO W (orS (tldB row i) n) n < rg then nI (vF S sp row i n % prO W (orS (tldB row i) n) n) else -4) else -4
theorem orS_lt (P : Nat → Bool) : ∀ n, orS P n < 2 ^ n
  | 0 => Nat.zero_lt_one
  | n + 1 => by
    have ih := orS_lt P n
    rw [orS]
    have h2 : (if P n then 2 ^ n else 0) < 2 ^ (n + 1) := by
      have := Nat.pow_lt_pow_right (a := 2) (by decide) (Nat.lt_succ_self n)
      split
      · exact this
      · omega
    exact Nat.or_lt_two_pow (Nat.lt_trans ih (Nat.pow_lt_pow_right (by decide) (Nat.lt_succ_self n))) h2
theorem orS_64 (P : Nat → Bool) {n : Nat} (h : n ≤ 6) : orS P n < 64 := Nat.lt_of_lt_of_le (orS_lt P n) (Nat.le_trans (Nat.pow_le_pow_right (by decide) h) (by decide))
theorem l2i_small {x : Int64} (h1 : 0 ≤ x.toInt) (h2 : x.toInt < 2 ^ 31) : x.toInt32 = nI x.toInt.toNat := by
  obtain ⟨k, hk, e⟩ := pk_lOf (x := x) (by rw [Int64.lt_iff_toInt_lt]; show ¬ x.toInt < 0; omega)
  subst e
  rw [pk_lT hk] at h2 ⊢
  rw [lN_i]
  rfl
def inW (w : Nat) (x : Int64) : Prop := 0 ≤ x.toInt ∧ x.toInt < (w : Int)
def okT (kd w : Nat) (row : Nat → Int64) (q : Nat) : Bool := decide ((0 ≤ (row q).toInt ∧ (row q).toInt < (w : Int)) ∧ (0 ≤ (row (q + 1)).toInt ∧ (row (q + 1)).toInt < (w : Int)) ∧ (nI (addK kd w (row q).toInt.toNat (row (q + 1)).toInt.toNat)).toInt64 = row (q + 2))
def skB (kd w : Nat) (row : Nat → Int64) (i : Nat) : Nat → Bool | 0 => true | t + 1 => skB kd w row i t && okT kd w row (i + 3 * t)
theorem skB_f {kd w : Nat} {row : Nat → Int64} {i k : Nat} (h : skB kd w row i k = false) : ∀ n, k ≤ n → skB kd w row i n = false
  | 0, hn => by rw [← Nat.le_zero.mp hn]; exact h
  | n + 1, hn => by
    rcases Nat.lt_or_ge k (n + 1) with q | q
    · rw [skB, skB_f h n (by omega)]; rfl
    · rw [← Nat.le_antisymm hn q]; exact h
theorem lt64 {x y : Int64} (h : x < y) : x.toInt < y.toInt := Int64.lt_iff_toInt_lt.mp h
theorem nlt64 {x y : Int64} (h : ¬ x < y) : y.toInt ≤ x.toInt := by rw [Int64.lt_iff_toInt_lt] at h; omega
theorem i2l_toInt {k : Nat} (h : k < 2 ^ 31) : (nI k).toInt64.toInt = (k : Int) := by rw [Int32.toInt_toInt64, nI_toInt h]
theorem cmp_ge {x y : Int64} (h : 0 ≤ lg_cmp x y) : ¬ x < y := cmp_nlt (fun q => by rw [Int32.lt_iff_toInt_lt] at q; rw [Int32.le_iff_toInt_le] at h; omega)
theorem cmp_nge {x y : Int64} (h : ¬ 0 ≤ lg_cmp x y) : x < y := cmp_lt (by rw [Int32.lt_iff_toInt_lt]; rw [Int32.le_iff_toInt_le] at h; omega)
