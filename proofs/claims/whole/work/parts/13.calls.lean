/-! CALLS OVER THE FUNCTIONAL HEAP -/
def hIsNest : Cond → Bool
  | .fieldLinkNest .. => true
  | .methodLinkNest .. => true
  | .castable .. => true
  | _ => false
def hAA (U : State) : Prop := (Cond.arrayOver (.array .int)).before #[] U = true
theorem hAA.use {A : Array Value} {U : State} (h : hAA U) : (Cond.arrayOver (.array .int)).before A U = true := h
theorem hAA.moved {u U : State} (hvm : u.vm.Alike U.vm) (h : hAA u) : hAA U := by
  obtain ⟨comp, c, k, h1, h2, h3, h4, h5⟩ := arrayOverA_spec h
  obtain ⟨k', hk', he⟩ := hvm.2.2 _ _ h3
  have hi : (U.vm.classes.findIdx? fun (x : Class) => match x.kind with | .array component _ => component == comp | _ => false) = some c := by
    rw [hvm.findIdx?_eq _ (fun _ => rfl)]
    exact h2
  have hkind : k'.kind = .array comp (.array .int) := by rw [he]; exact h4
  have f1 : U.vm.findClass (FieldType.array .int).toString = some comp := by rw [hvm.findClass]; exact h1
  have f2 : U.vm.findClass ("[" ++ (FieldType.array .int).toString) = some c := by rw [hvm.findClass]; exact h5
  unfold hAA Cond.before Cond.holds
  simp only [Cond.value]
  rw [f1, Option.bind_some]
  refine (congrArg (fun o : Option Nat => (o.bind (fun c => (U.vm.classes[c]?).map fun (k : Class) => match k.kind with | .array _ ty => decide (ty = FieldType.array .int) && decide (U.vm.findClass ("[" ++ (FieldType.array .int).toString) = some c) | _ => false) == some true)) hi).trans ?_
  simp [hk', hkind, f2]
/-- what no word of the table says: links between nest mates, arrays of references, arrays of arrays -/
def hNs (U : State) : Prop := (∀ w ∈ nests, va_Nw w U) ∧ (∀ C ∈ aocls, va_AO C U) ∧ hAA U
theorem nests_ok : nests.all hIsNest = true := by decide +kernel
theorem hNs_warm {s U : State} (hW : s.WarmedH U.vm) (hN : hNs s) : hNs U := by
  refine ⟨fun w hw => ?_, fun C hC => (hN.2.1 C hC).moved hW.alike, hN.2.2.moved hW.alike⟩
  have h1 := List.all_eq_true.mp nests_ok w hw
  have h2 := hN.1 w hw
  cases w <;> first | exact va_Nw.warmF hW h2 | exact va_Nw.warmM hW h2 | exact va_Nw.warmC hW h2 | cases h1
theorem hNs_same {s U : State} (hv : s.vm = U.vm) (hN : hNs s) : hNs U := by
  have ha : s.vm.Alike U.vm := hv ▸ Vm.Alike.refl s.vm
  refine ⟨fun w hw => ?_, fun C hC => (hN.2.1 C hC).moved ha, hN.2.2.moved ha⟩
  have h1 := List.all_eq_true.mp nests_ok w hw
  have h2 := hN.1 w hw
  cases w <;> first | exact va_Nw.same rfl hv h2 | cases h1
/-- a method's start: the heap, the tables, the nests -/
def hB (D : va_G) (dA : Nat → ClassId) (b0 nx : Nat) (h : hH) (U : State) : Prop := hW D dA classes b0 nx h U.heap ∧ va_K D classes (tys dA) U ∧ hNs U
theorem h_blind {av : List Value} {D : va_G} {dA : Nat → ClassId} {b0 nx : Nat} {h : hH} : FrameBlind (va_Pc av (hB D dA b0 nx h)) := fun a U g mk q => ⟨q.1, q.2.1, va_K.moved (u := U) (U := U.calling g mk a) (Vm.Alike.refl U.vm) q.2.2.1, hNs_same (s := U) (U := U.calling g mk a) rfl q.2.2.2⟩
section HCALLS
variable {p : Program} {l : Launch} {e : Env} {R : Room} {s : State} {m : MethodId} {args : Array Value} {below : List Frame} {meth : Method} {c : Code} {H : Heap} {locs : List Loc} {cells slots : Nat} {Q : State → Prop}
variable {cc : ByteArray} {nL pc : Nat} {ls : Array Slot} {rest As : List Value} {D : va_G} {dA : Nat → ClassId} {b0 nx nx' : Nat} {h h' : hH} {Ts : List Cond} {own : String} {H0 : Heap}
variable {y : MethodName} {bytes : ByteArray} {maxL mc ms n index : Nat} {ret : Option FieldType} {ws : List Cond} {rm : Room} {Qc : Array Value → State → Outcome → State → Prop} {b : Addr} {st0 : List Value} {a : Array Value}
theorem h_runV {C : String} {T : u_T} {N ci : Nat} {fs : List Value} (S : CallFix p m c cc nL s args Ts own) (hM : Met l y ws rm (va_Pc (.ref b :: As) (hB D dA b0 nx h)) Qc mc ms (hA b0)) (cw : CallW R s args own C index y bytes maxL ret ws rm mc ms n) (hK : va_K D classes (tys dA) s) (hN : hNs s) (hw : hW D dA classes b0 nx h H) (hc : classes[ci]? = some (C, T, N)) (hr : hObj h b ci = some fs) (hn : As.length = n) (hsize : ls.size = nL) (hroom : 2 * (F0 m pc ls (As.reverse ++ .ref b :: rest)).monitorRoom + (rest.map fun v => v.category).sum ≤ 8) (hdg : decode cc pc = .ok (.invokevirtual index, 3)) (hf : cells + mc ≤ R.cells ∧ slots + ms ≤ R.slots) :
    va_Run p l e R s m args below meth c H locs cells slots mc ms (F0 m pc ls (As.reverse ++ .ref b :: rest)) rest (Qc (Value.ref b :: As).toArray) (hA b0) :=
  va_runV S hM cw ⟨h_blind, va_recv hK (hw.P1 (hObj_spec hr)) (q0 := 0) hc rfl, fun U hU hW9 => ⟨rfl, by rw [hU]; exact hw, va_K.moved hW9.alike hK, hNs_warm hW9 hN⟩⟩ rfl hn hsize rfl hroom hdg hf
theorem h_runVN {C host : String} {T : u_T} {N ci : Nat} {fs : List Value} (S : CallFix p m c cc nL s args Ts own) (hM : Met l y ws rm (va_Pc (.ref b :: As) (hB D dA b0 nx h)) Qc mc ms (hA b0)) (cw : va_CN R s args own index y host bytes maxL ret ws rm mc ms n ∧ (Cond.instanceMethod y).before args s = true ∧ (Cond.selects C y y).before args s = true) (hK : va_K D classes (tys dA) s) (hN : hNs s) (hw : hW D dA classes b0 nx h H) (hc : classes[ci]? = some (C, T, N)) (hr : hObj h b ci = some fs) (hn : As.length = n) (hsize : ls.size = nL) (hroom : 2 * (F0 m pc ls (As.reverse ++ .ref b :: rest)).monitorRoom + (rest.map fun v => v.category).sum ≤ 8) (hdg : decode cc pc = .ok (.invokevirtual index, 3)) (hf : cells + mc ≤ R.cells ∧ slots + ms ≤ R.slots) :
    va_Run p l e R s m args below meth c H locs cells slots mc ms (F0 m pc ls (As.reverse ++ .ref b :: rest)) rest (Qc (Value.ref b :: As).toArray) (hA b0) :=
  va_runVN S hM cw ⟨h_blind, va_recv hK (hw.P1 (hObj_spec hr)) (q0 := 0) hc rfl, fun U hU hW9 => ⟨rfl, by rw [hU]; exact hw, va_K.moved hW9.alike hK, hNs_warm hW9 hN⟩⟩ rfl hn hsize rfl hroom hdg hf
theorem h_runS (S : CallFix p m c cc nL s args Ts own) (hM : Met l y ws rm (va_Pc As (hB D dA b0 nx h)) Qc mc ms (hA b0)) (cw : CallB R s args own index y bytes maxL ret ws rm mc ms n ∧ (Cond.static y).before args s = true) (hK : va_K D classes (tys dA) s) (hN : hNs s) (hw : hW D dA classes b0 nx h H) (hn : As.length = n) (hsize : ls.size = nL) (hroom : 2 * (F0 m pc ls (As.reverse ++ rest)).monitorRoom + (rest.map fun v => v.category).sum ≤ 8) (hdg : decode cc pc = .ok (.invokestatic index, 3)) (hf : cells + mc ≤ R.cells ∧ slots + ms ≤ R.slots) :
    va_Run p l e R s m args below meth c H locs cells slots mc ms (F0 m pc ls (As.reverse ++ rest)) rest (Qc As.toArray) (hA b0) :=
  va_runS S hM cw ⟨h_blind, fun U hU hW9 => ⟨rfl, by rw [hU]; exact hw, va_K.moved hW9.alike hK, hNs_warm hW9 hN⟩⟩ rfl hn hsize rfl hroom hdg hf
theorem h_runSN {host : String} (S : CallFix p m c cc nL s args Ts own) (hM : Met l y ws rm (va_Pc As (hB D dA b0 nx h)) Qc mc ms (hA b0)) (cw : va_CN R s args own index y host bytes maxL ret ws rm mc ms n ∧ (Cond.static y).before args s = true ∧ True) (hK : va_K D classes (tys dA) s) (hN : hNs s) (hw : hW D dA classes b0 nx h H) (hn : As.length = n) (hsize : ls.size = nL) (hroom : 2 * (F0 m pc ls (As.reverse ++ rest)).monitorRoom + (rest.map fun v => v.category).sum ≤ 8) (hdg : decode cc pc = .ok (.invokestatic index, 3)) (hf : cells + mc ≤ R.cells ∧ slots + ms ≤ R.slots) :
    va_Run p l e R s m args below meth c H locs cells slots mc ms (F0 m pc ls (As.reverse ++ rest)) rest (Qc As.toArray) (hA b0) :=
  va_runSN S hM cw ⟨h_blind, fun U hU hW9 => ⟨rfl, by rw [hU]; exact hw, va_K.moved hW9.alike hK, hNs_warm hW9 hN⟩⟩ rfl hn hsize rfl hroom hdg hf
theorem h_runI (S : CallFix p m c cc nL s args Ts own) (hM : Met l y ws rm (va_Pc (.ref b :: As) (hB D dA b0 nx h)) Qc mc ms (hA b0)) (cw : CallB R s args own index y bytes maxL none ws rm mc ms n ∧ y.name = "<init>" ∧ (Cond.instanceMethod y).before args s = true) (hK : va_K D classes (tys dA) s) (hN : hNs s) (hw : hW D dA classes b0 nx h H) (hn : As.length = n) (hsize : ls.size = nL) (hroom : 2 * (F0 m pc ls (As.reverse ++ .ref b :: rest)).monitorRoom + (rest.map fun v => v.category).sum ≤ 8) (hdg : decode cc pc = .ok (.invokespecial index, 3)) (hf : cells + mc ≤ R.cells ∧ slots + ms ≤ R.slots) :
    va_Run p l e R s m args below meth c H locs cells slots mc ms (F0 m pc ls (As.reverse ++ .ref b :: rest)) rest (Qc (Value.ref b :: As).toArray) (hA b0) :=
  va_runI S hM cw ⟨h_blind, fun U hU hW9 => ⟨rfl, by rw [hU]; exact hw, va_K.moved hW9.alike hK, hNs_warm hW9 hN⟩⟩ rfl hn hsize rfl hroom hdg hf
theorem h_runIN {host : String} (S : CallFix p m c cc nL s args Ts own) (hM : Met l y ws rm (va_Pc (.ref b :: As) (hB D dA b0 nx h)) Qc mc ms (hA b0)) (cw : va_CN R s args own index y host bytes maxL none ws rm mc ms n ∧ y.name = "<init>" ∧ (Cond.instanceMethod y).before args s = true) (hK : va_K D classes (tys dA) s) (hN : hNs s) (hw : hW D dA classes b0 nx h H) (hn : As.length = n) (hsize : ls.size = nL) (hroom : 2 * (F0 m pc ls (As.reverse ++ .ref b :: rest)).monitorRoom + (rest.map fun v => v.category).sum ≤ 8) (hdg : decode cc pc = .ok (.invokespecial index, 3)) (hf : cells + mc ≤ R.cells ∧ slots + ms ≤ R.slots) :
    va_Run p l e R s m args below meth c H locs cells slots mc ms (F0 m pc ls (As.reverse ++ .ref b :: rest)) rest (Qc (Value.ref b :: As).toArray) (hA b0) :=
  va_runIN S hM cw ⟨h_blind, fun U hU hW9 => ⟨rfl, by rw [hU]; exact hw, va_K.moved hW9.alike hK, hNs_warm hW9 hN⟩⟩ rfl hn hsize rfl hroom hdg hf
theorem h_ci {r : Int32} (hr : va_Run p l e R s m args below meth c H locs cells slots mc ms (F0 m pc ls st0) rest (va_Qi (fun r' (_ : Unit) => r' = r) (fun (_ : Unit) t => hW D dA classes b0 nx' h' t.heap) (hA b0) a) (hA b0)) (hS : va_S (hA b0) H0 H locs)
    (kk : ∀ (H1 : Heap) (locs1 : List Loc), hW D dA classes b0 nx' h' H1 → va_S (hA b0) H0 H1 locs1 → W p l e R s m args below meth c H1 locs1 (cells + mc) (slots + ms) Q (F0 m (pc + 3) ls (.int r :: rest))) : W p l e R s m args below meth c H locs cells slots Q (F0 m pc ls st0) :=
  va_calli hr hS (fun _ _ q => q) (fun _ q => q) (fun r2 u t H1 locs1 ht hvm hp hB9 _ _ hS1 => by subst hp; subst ht; exact kk _ _ hB9 hS1)
theorem h_cl {r : Int64} (hr : va_Run p l e R s m args below meth c H locs cells slots mc ms (F0 m pc ls st0) rest (va_Ql (fun r' (_ : Unit) => r' = r) (fun (_ : Unit) t => hW D dA classes b0 nx' h' t.heap) (hA b0) a) (hA b0)) (hS : va_S (hA b0) H0 H locs)
    (kk : ∀ (H1 : Heap) (locs1 : List Loc), hW D dA classes b0 nx' h' H1 → va_S (hA b0) H0 H1 locs1 → W p l e R s m args below meth c H1 locs1 (cells + mc) (slots + ms) Q (F0 m (pc + 3) ls (.long r :: rest))) : W p l e R s m args below meth c H locs cells slots Q (F0 m pc ls st0) :=
  va_calll hr hS (fun _ _ q => q) (fun _ q => q) (fun r2 u t H1 locs1 ht hvm hp hB9 _ _ hS1 => by subst hp; subst ht; exact kk _ _ hB9 hS1)
theorem h_cq {r : Option Nat} (hr : va_Run p l e R s m args below meth c H locs cells slots mc ms (F0 m pc ls st0) rest (va_Qq (fun r' (_ : Unit) => r' = r) (fun (_ : Unit) t => hW D dA classes b0 nx' h' t.heap) (hA b0) a) (hA b0)) (hS : va_S (hA b0) H0 H locs)
    (kk : ∀ (H1 : Heap) (locs1 : List Loc), hW D dA classes b0 nx' h' H1 → va_S (hA b0) H0 H1 locs1 → W p l e R s m args below meth c H1 locs1 (cells + mc) (slots + ms) Q (F0 m (pc + 3) ls (va_rf r :: rest))) : W p l e R s m args below meth c H locs cells slots Q (F0 m pc ls st0) :=
  va_callq hr hS (fun _ _ q => q) (fun _ q => q) (fun r2 u t H1 locs1 ht hvm hp hB9 _ _ hS1 => by subst hp; subst ht; exact kk _ _ hB9 hS1)
theorem h_cv (hr : va_Run p l e R s m args below meth c H locs cells slots mc ms (F0 m pc ls st0) rest (va_Qv (fun (_ : Unit) => True) (fun (_ : Unit) t => hW D dA classes b0 nx' h' t.heap) (hA b0) a) (hA b0)) (hS : va_S (hA b0) H0 H locs)
    (kk : ∀ (H1 : Heap) (locs1 : List Loc), hW D dA classes b0 nx' h' H1 → va_S (hA b0) H0 H1 locs1 → W p l e R s m args below meth c H1 locs1 (cells + mc) (slots + ms) Q (F0 m (pc + 3) ls rest)) : W p l e R s m args below meth c H locs cells slots Q (F0 m pc ls st0) :=
  va_callv hr hS (fun _ _ q => q) (fun _ q => q) (fun u t H1 locs1 ht hvm hp hB9 _ _ hS1 => by subst ht; exact kk _ _ hB9 hS1)
/-- words that all methods share: a code word ahead of one table -/
theorem h_good {c0 c1 : Cond} (xs : List Cond) (hx : ∀ w ∈ xs, w ∈ tbl) (h1 : c1 ∈ tbl) : GoodIn (c0 :: tbl) (xs ++ (c1 :: tbl)) := by
  intro w hw
  have hin : w ∈ tbl := by
    rcases List.mem_append.mp hw with q | q
    · exact hx w q
    · rcases List.mem_cons.mp q with rfl | q
      · exact h1
      · exact q
  exact ⟨List.mem_cons_of_mem _ hin, tbl_good w hin⟩
theorem h_aload_n (hexec : p.tables.exec = Jvm.exec) (hb : c.code = cc) {k : Fin 4} {i : Nat} {x : Option Nat} (hdg : decode cc pc = .ok (.aload_n k, 1)) (hi : (k : Nat) = i) (hl : ls[i]? = some (.val (va_rf x)))
    (kk : W p l e R s m args below meth c H locs cells slots Q (F0 m (pc + 1) ls (va_rf x :: rest))) : W p l e R s m args below meth c H locs cells slots Q (F0 m pc ls rest) := by
  cases x with
  | none => exact lv_aload_nN hexec hb hdg hi hl kk
  | some x => exact lv_aload_n hexec hb hdg hi hl kk
theorem h_aload (hexec : p.tables.exec = Jvm.exec) (hb : c.code = cc) {i : Nat} {x : Option Nat} (hdg : decode cc pc = .ok (.aload i, 2)) (hl : ls[i]? = some (.val (va_rf x)))
    (kk : W p l e R s m args below meth c H locs cells slots Q (F0 m (pc + 2) ls (va_rf x :: rest))) : W p l e R s m args below meth c H locs cells slots Q (F0 m pc ls rest) := by
  cases x with
  | none => exact lv_aloadN hexec hb hdg hl kk
  | some x => exact lv_aload hexec hb hdg hl kk
theorem h_astore_n (hexec : p.tables.exec = Jvm.exec) (hb : c.code = cc) {k : Fin 4} {i nL : Nat} {x : Option Nat} {lv lv' : List (Nat × Value)} (hdg : decode cc pc = .ok (.astore_n k, 1)) (hi : (k : Nat) = i) (h : lv_has ls nL lv) (hn : i < nL) (hl : (i, va_rf x) :: lv.filter (fun q => !(q.1 == i) && !(q.1 + 1 == i && q.2.category == 2)) = lv')
    (kk : ∀ ls' : Array Slot, lv_has ls' nL lv' → W p l e R s m args below meth c H locs cells slots Q (F0 m (pc + 1) ls' rest)) : W p l e R s m args below meth c H locs cells slots Q (F0 m pc ls (va_rf x :: rest)) := by
  cases x with
  | none => exact lv_astore_nN hexec hb hdg hi h hn hl kk
  | some x => exact lv_astore_n hexec hb hdg hi h hn hl kk
theorem h_astore (hexec : p.tables.exec = Jvm.exec) (hb : c.code = cc) {i nL : Nat} {x : Option Nat} {lv lv' : List (Nat × Value)} (hdg : decode cc pc = .ok (.astore i, 2)) (h : lv_has ls nL lv) (hn : i < nL) (hl : (i, va_rf x) :: lv.filter (fun q => !(q.1 == i) && !(q.1 + 1 == i && q.2.category == 2)) = lv')
    (kk : ∀ ls' : Array Slot, lv_has ls' nL lv' → W p l e R s m args below meth c H locs cells slots Q (F0 m (pc + 2) ls' rest)) : W p l e R s m args below meth c H locs cells slots Q (F0 m pc ls (va_rf x :: rest)) := by
  cases x with
  | none => exact lv_astoreN hexec hb hdg h hn hl kk
  | some x => exact lv_astore hexec hb hdg h hn hl kk
end HCALLS
