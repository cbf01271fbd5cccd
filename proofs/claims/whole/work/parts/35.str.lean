/-! the one String constant, by its cells -/
def byt5 (j : Nat) : Int32 := if j = 0 then 112 else if j = 1 then 108 else if j = 2 then 115 else if j = 3 then 119 else 122
def sK (aK aV : Nat) (A : Nat → Prop) (U : State) (H : Heap) : Prop := vk_R RX2 54 "plswz" aK U ∧ va_O "java/lang/String" aK A U H ∧ va_OF "java/lang/String" "coder" "B" (.int 0) aK A U H ∧ va_OF "java/lang/String" "value" "[B" (.ref aV) aK A U H ∧ va_T .byte aV 5 (fun j => .int (byt5 j)) A U H ∧ va_Z "java/lang/String" "COMPACT_STRINGS" "Z" (.int 1) A U H
section STRS
variable {aK aV : Nat} {A B : Nat → Prop} {u U s : State} {H H1 : Heap}
theorem sK.kept (h : sK aK aV A U H) (hq : ∀ a : Nat, a < H.size → ¬ A a → H1[a]? = H[a]?) : sK aK aV A U H1 := ⟨h.1, h.2.1.kept hq, h.2.2.1.kept hq, h.2.2.2.1.kept hq, h.2.2.2.2.1.kept hq, h.2.2.2.2.2.kept hq⟩
theorem sK.narrow (h : sK aK aV A U H) (hAB : ∀ q, B q → A q) : sK aK aV B U H := ⟨h.1, h.2.1.narrow hAB, h.2.2.1.narrow hAB, h.2.2.2.1.narrow hAB, h.2.2.2.2.1.narrow hAB, h.2.2.2.2.2.narrow hAB⟩
theorem sK.none (h : sK aK aV A U H) : sK aK aV (fun _ => False) U H := h.narrow (fun _ q => q.elim)
theorem sK.call (h : sK aK aV A U H) {g : JFrame} {mk : MethodId} {a : Array Value} : sK aK aV A (U.calling g mk a) H := ⟨vk_R.same (u := U) rfl h.1, va_O.moved (u := U) (Vm.Alike.refl U.vm) h.2.1, va_OF.moved (u := U) (Vm.Alike.refl U.vm) h.2.2.1, va_OF.moved (u := U) (Vm.Alike.refl U.vm) h.2.2.2.1, va_T.moved (u := U) (Vm.Alike.refl U.vm) h.2.2.2.2.1, va_Z.moved (u := U) (Vm.Alike.refl U.vm) h.2.2.2.2.2⟩
theorem sK.warm (hW : s.WarmedH U.vm) (h : sK aK aV A s H) : sK aK aV A U H := ⟨vk_R.warm hW h.1, va_O.moved hW.alike h.2.1, va_OF.moved hW.alike h.2.2.1, va_OF.moved hW.alike h.2.2.2.1, va_T.moved hW.alike h.2.2.2.2.1, va_Z.moved hW.alike h.2.2.2.2.2⟩
def rS (aK aV : Nat) : State → Prop := fun U => sK aK aV (fun _ => False) U U.heap
theorem rs_preS {av : List Value} (h : sK aK aV A s H) : PreS s H (va_Pc av (rS aK aV)) av := ⟨fun a U g mk q => ⟨q.1, sK.call q.2⟩, fun U hU hW => ⟨rfl, by show sK aK aV _ U U.heap; rw [hU]; exact h.none.warm hW⟩⟩
theorem rs_preV {As : List Value} (h : sK aK aV A s H) : PreV s H RJ0 aK (va_Pc (.ref aK :: As) (rS aK aV)) As := ⟨fun a U g mk q => ⟨q.1, sK.call q.2⟩, (by obtain ⟨cell, h1, h2, h3, -⟩ := h.2.1; exact ⟨cell, h1, h2, h3⟩), fun U hU hW => ⟨rfl, by show sK aK aV _ U U.heap; rw [hU]; exact h.none.warm hW⟩⟩
def rWS (D : va_G) (cl : List vw_C) (ws : va_W) (tys : List (ClassId × FieldType)) (sz aK aV : Nat) : State → Prop := fun U => rW D cl ws tys sz U ∧ sK aK aV (va_A ws sz) U U.heap
theorem rws_preV {D : va_G} {cl : List vw_C} {ws : va_W} {tys : List (ClassId × FieldType)} {As : List Value} {a ci : Nat} {C : String} {T : u_T} {N : Nat} {fs : List Value} (hK : kK D cl tys s) (hP : va_P D cl ws H) (hD : va_D A ws) (hZ : sK aK aV (va_A ws H.size) s H) (hc : cl[ci]? = some (C, T, N)) (he : ws[0]? = some (a, .inr (ci, fs))) : PreV s H C a (va_Pc (.ref a :: As) (rWS D cl ws tys H.size aK aV)) As := by
  obtain ⟨b1, b2, b3⟩ := rw_preV (As := As) hK hP hD hc he
  exact ⟨fun a U g mk q => ⟨q.1, (b1 a U g mk ⟨q.1, q.2.1⟩).2, sK.call q.2.2⟩, b2, fun U hU hW => ⟨rfl, (b3 U hU hW).2, by rw [hU]; exact hZ.warm hW⟩⟩
end STRS
section STRR
variable {p : Program} {l : Launch} {e : Env} {R : Room} {s : State} {m : MethodId} {args : Array Value} {below : List Frame} {meth : Method} {c : Code} {cells slots : Nat} {cc : ByteArray} {pc : Nat} {ls : Array Slot}
theorem rr_xret {v r : Int32} {ty : FieldType} (hexec : p.tables.exec = Jvm.exec) (hb : c.code = cc) (hr : meth.sig.returnType = some ty) (hn : narrow ty (.int v) = .int v) (hlocks : meth.locks = false) (hdg : decode cc pc = .ok (.ireturn, 1)) (h : v = r) : W p l e R s m args below meth c s.heap [] cells slots (MQ below (QcRead r) args s cells slots (fun _ => False)) (F0 m pc ls [.int v]) := by
  subst h
  exact W.zret (ty := ty) hexec hb hr hn (fun t ht _ => ⟨rfl, ht⟩) (fun q h => absurd h List.not_mem_nil) hdg hlocks
end STRR
theorem ch_eq {b : Nat} (hb : b < 128) {c : Nat} (hc : c < 256) (h : nI b = (nI c).toInt8.toInt32) : c = b := by
  have h1 : (nI b).toInt8.toInt32 = nI b := by
    have hall : ∀ b : Fin 128, (nI b.val).toInt8.toInt32 = nI b.val := by decide +kernel
    exact hall ⟨b, hb⟩
  have h2 := (sc_eq h1 hc).mp h
  have h3 : nI b &&& 255 = nI b := by
    have hall : ∀ b : Fin 128, nI b.val &&& 255 = nI b.val := by decide +kernel
    exact hall ⟨b, hb⟩
  rw [h3] at h2
  exact ((nI_eq (by omega) (by omega)).mp h2).symm
theorem ch_ne {b : Nat} (hb : b < 128) {c : Nat} (h : ¬ nI b = (nI c).toInt8.toInt32) : ¬ nI c = nI b := by
  intro q
  apply h
  rw [q]
  have hall : ∀ b : Fin 128, nI b.val = (nI b.val).toInt8.toInt32 := by decide +kernel
  exact hall ⟨b, hb⟩
theorem i2c_small {c : Nat} (hc : c < 65536) : ((nI c).toUInt32 % 65536).toInt32 = nI c := by
  rw [pk_char]
  congr 1
  show (BitVec.ofNat 32 c).toNat % 65536 = c
  rw [BitVec.toNat_ofNat]
  omega
