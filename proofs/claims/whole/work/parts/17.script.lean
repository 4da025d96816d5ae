/-! THE LAW'S SCRIPT -/
/-- place i of the script -/
def hSc (L : Nat) (xs : Nat → Int32) (i : Int32) : Option Int32 := if hIn i L then some (xs i.toNatClampNeg) else none
theorem hSc_spec {L : Nat} {xs : Nat → Int32} {i x : Int32} (e : hSc L xs i = some x) : vp_in i L ∧ x = xs i.toNatClampNeg := by
  unfold hSc at e
  split at e
  · rename_i hi
    cases e
    exact ⟨hIn_vp hi, rfl⟩
  · cases e
def hBX (D : va_G) (dA : Nat → ClassId) (b0 nx : Nat) (h : hH) (b L : Nat) (xs : Nat → Int32) (U : State) : Prop := hB D dA b0 nx h U ∧ va_X b L xs U U.heap ∧ b < U.heap.size ∧ ¬ hA b0 b
theorem h_blindX {av : List Value} {D : va_G} {dA : Nat → ClassId} {b0 nx : Nat} {h : hH} {b L : Nat} {xs : Nat → Int32} : FrameBlind (va_Pc av (hBX D dA b0 nx h b L xs)) := fun a U g mk q => ⟨q.1, (h_blind (av := av) a U g mk ⟨q.1, q.2.1⟩).2, va_X.moved (u := U) (U := U.calling g mk a) (Vm.Alike.refl U.vm) q.2.2.1, q.2.2.2⟩
section HSCRIPT
variable {p : Program} {l : Launch} {e : Env} {R : Room} {s : State} {m : MethodId} {args : Array Value} {below : List Frame} {meth : Method} {c : Code} {H : Heap} {locs : List Loc} {cells slots : Nat} {Q : State → Prop}
variable {cc : ByteArray} {nL pc : Nat} {ls : Array Slot} {rest As : List Value} {D : va_G} {dA : Nat → ClassId} {b0 nx : Nat} {h : hH} {Ts : List Cond} {own : String} {H0 : Heap} {b L : Nat} {xs : Nat → Int32}
variable {y : MethodName} {bytes : ByteArray} {maxL mc ms n index : Nat} {ret : Option FieldType} {ws : List Cond} {rm : Room} {Qc : Array Value → State → Outcome → State → Prop}
theorem h_sld (S : CallFix p m c cc nL s args Ts own) (hX : va_X b L xs s H0) (hbl : b < H0.size) (hbA : ¬ hA b0 b) (hS : va_S (hA b0) H0 H locs) {i x : Int32} (hg : hSc L xs i = some x) (hdg : decode cc pc = .ok (.iaload, 1))
    (kk : W p l e R s m args below meth c H locs cells slots Q (F0 m (pc + 1) ls (.int x :: rest))) : W p l e R s m args below meth c H locs cells slots Q (F0 m pc ls (.int i :: .ref b :: rest)) := by
  obtain ⟨g1, rfl⟩ := hSc_spec hg
  exact va_sld S.1 S.2.1 hX hbl hbA hS g1 hdg kk
theorem h_slen (S : CallFix p m c cc nL s args Ts own) (hX : va_X b L xs s H0) (hbl : b < H0.size) (hbA : ¬ hA b0 b) (hS : va_S (hA b0) H0 H locs) (hdg : decode cc pc = .ok (.arraylength, 1))
    (kk : W p l e R s m args below meth c H locs cells slots Q (F0 m (pc + 1) ls (.int (nI L) :: rest))) : W p l e R s m args below meth c H locs cells slots Q (F0 m pc ls (.ref b :: rest)) := va_slen S.1 S.2.1 hX hbl hbA hS hdg kk
theorem h_runSX (S : CallFix p m c cc nL s args Ts own) (hM : Met l y ws rm (va_Pc As (hBX D dA b0 nx h b L xs)) Qc mc ms (hA b0)) (cw : CallB R s args own index y bytes maxL ret ws rm mc ms n ∧ (Cond.static y).before args s = true) (hK : va_K D classes (tys dA) s) (hN : hNs s) (hw : hW D dA classes b0 nx h H) (hX : va_X b L xs s H0) (hbl : b < H0.size) (hbA : ¬ hA b0 b) (hS : va_S (hA b0) H0 H locs) (hn : As.length = n) (hsize : ls.size = nL) (hroom : 2 * (F0 m pc ls (As.reverse ++ rest)).monitorRoom + (rest.map fun v => v.category).sum ≤ 8) (hdg : decode cc pc = .ok (.invokestatic index, 3)) (hf : cells + mc ≤ R.cells ∧ slots + ms ≤ R.slots) :
    va_Run p l e R s m args below meth c H locs cells slots mc ms (F0 m pc ls (As.reverse ++ rest)) rest (Qc As.toArray) (hA b0) :=
  va_runS S hM cw ⟨h_blindX, fun U hU hW9 => ⟨rfl, ⟨by rw [hU]; exact hw, va_K.moved hW9.alike hK, hNs_warm hW9 hN⟩, by rw [hU]; exact va_X.moved hW9.alike (hX.kept (hS.2.1 b hbl hbA)), by rw [hU]; exact Nat.lt_of_lt_of_le hbl hS.1, hbA⟩⟩ rfl hn hsize rfl hroom hdg hf
end HSCRIPT
