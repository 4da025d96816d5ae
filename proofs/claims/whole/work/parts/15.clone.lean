/-! A COPY OF AN ARRAY OF INTS, AND A CAST TO ITS KIND -/
section HCLONE
variable {p : Program} {l : Launch} {e : Env} {R : Room} {s : State} {m : MethodId} {args : Array Value} {below : List Frame} {meth : Method} {c : Code} {H : Heap} {locs : List Loc} {cells slots : Nat} {Q : State → Prop}
variable {cc : ByteArray} {nL pc : Nat} {ls : Array Slot} {rest : List Value} {D : va_G} {dA : Nat → ClassId} {cl : List vw_C} {a : Nat} {tys : List (ClassId × FieldType)} {H0 : Heap} {b0 nx : Nat} {h : hH} {Ts : List Cond} {own : String}
theorem h_clone (S : CallFix p m c cc nL s args Ts own) (hls : ls.size = nL) {index kd : Nat} (hlink : Cond.methodLink own index ⟨"[I", "clone", "()Ljava/lang/Object;"⟩ ∈ Ts) (hsame : Cond.sameMethod "[I" "java/lang/Object" "clone" "()Ljava/lang/Object;" ∈ Ts)
    (hnat : Cond.native ⟨"java/lang/Object", "clone", "()Ljava/lang/Object;"⟩ ∈ Ts) (hinst : Cond.instanceMethod ⟨"java/lang/Object", "clone", "()Ljava/lang/Object;"⟩ ∈ Ts) (hsel : Cond.selects "[I" ⟨"[I", "clone", "()Ljava/lang/Object;"⟩ ⟨"java/lang/Object", "clone", "()Ljava/lang/Object;"⟩ ∈ Ts) (hcl : va_Nw (.castable "[I" "java/lang/Cloneable") s)
    (hK : va_K D cl tys s) (ht : tys[kd]? = some (dA kd, .int)) (hw : hW D dA cl b0 nx h H) (hS : va_S (hA b0) H0 H locs) {x : Nat × (Nat → Int32)} (hg : hAI h a kd = some x) (hframes : 1 ≤ R.frames) (hlocals : (rest.map fun v => v.category).sum + 14 ≤ R.locals) (hcells : cells + 1 ≤ R.cells) (hslots : slots + x.1 ≤ R.slots) (hdg : decode cc pc = .ok (.invokevirtual index, 3))
    (kk : ∀ H1 : Heap, hW D dA cl b0 (nx + 1) (va_up h nx (some (.inl (kd, x.1, .inl x.2)))) H1 → va_S (hA b0) H0 H1 locs → W p l e R s m args below meth c H1 locs (cells + 1) (slots + x.1) Q (F0 m (pc + 3) ls (.ref nx :: rest))) : W p l e R s m args below meth c H locs cells slots Q (F0 m pc ls (.ref a :: rest)) := by
  obtain ⟨n, f⟩ := x
  have g1 := hAI_spec hg
  have hat : H[a]? = some (arrV (dA kd) n (fun j => .int (f j))) := (hw.2.2 a _ g1).2
  have hnm : s.vm.findClass "[I" = some (dA kd) := va_nm_int (hK.2 kd _ ht).2
  have hts := S.2.2.2.2
  obtain ⟨c0, t0', f1, f2, f3⟩ := Cond.castable_spec (va_Nw.use (A := args) rfl hcl)
  cases hnm.symm.trans f1
  intro T hT X
  have hcellT : T.heap[a]? = some (arrV (dA kd) n (fun j => .int (f j))) := by rw [hT]; exact hat
  obtain ⟨-, kA, hkA, comp, hkind⟩ := State.isArrayOf_alike X.warmed.alike ((hK.2 kd _ ht).1 0 (fun _ => .null))
  obtain ⟨-, kS, hkS, compS, hkindS⟩ := (hK.2 kd _ ht).1 0 (fun _ => .null)
  have hk' : T.vm.classes[dA kd]? = some kA := hkA
  obtain ⟨vm', X', st⟩ := X.cloneArray S.1 S.2.2.2.1 (hts _ hlink) (hts _ hsame) (hts _ hnat) (hts _ hinst) (hts _ hsel) (a := a) (cell := arrV (dA kd) n (fun j => .int (f j))) hcellT (fun k h => by cases h) (fun h => by cases h) hnm f2 f3
    (fun i v hv => by
      have h7 := va_fit (ty := .int) (fun _ _ => rfl) i v hv
      show State.fitsSlot _ (dA kd) .none i v = true
      simpa [State.fitsSlot, State.slotType?, hk', hkind] using h7)
    (g := F0 m pc ls (.ref a :: rest)) rfl (by rw [S.2.2.1]; exact hls) rfl (by rw [S.2.1]; exact hdg) hframes (by show 2 * 0 + _ + 14 ≤ _; omega) hcells (by rw [arrV_size]; exact hslots) (hloader := Vm.clonesLoader_of_array hkS hkindS)
  rw [arrV_size] at X'
  have z1 : (H.push (arrV (dA kd) n (fun j => .int (f j)))).size = H.size + 1 := Array.size_push _
  have e1 : (H.push (arrV (dA kd) n (fun j => .int (f j))))[H.size]? = some (arrV (dA kd) n (fun j => .int (f j))) := Array.getElem?_push_size
  have o1 : ∀ q : Nat, q < H.size → (H.push (arrV (dA kd) n (fun j => .int (f j))))[q]? = H[q]? := fun q hq => by rw [Array.getElem?_push, if_neg (Nat.ne_of_lt hq)]
  obtain ⟨t, b1, b2⟩ := kk _ (hw.push (c := .inl (kd, n, .inl f)) z1 o1 e1) (hS_push hS z1 o1) ((T.setVm vm').pushCell (arrV (dA kd) n (fun j => .int (f j)))) (by rw [← hT]; rfl) X'
  refine ⟨t, st t ?_, b2⟩
  rw [hT, hw.1]
  exact b1
theorem h_castA (S : CallFix p m c cc nL s args Ts own) {index kd : Nat} (hlink : Cond.classLink own index "[I" ∈ Ts) (hK : va_K D cl tys s) (ht : tys[kd]? = some (dA kd, .int)) (hw : hW D dA cl b0 nx h H) {x : Int32} (hg : haL h a kd = some x) (hdg : decode cc pc = .ok (.checkcast index, 3))
    (kk : W p l e R s m args below meth c H locs cells slots Q (F0 m (pc + 3) ls (.ref a :: rest))) : W p l e R s m args below meth c H locs cells slots Q (F0 m pc ls (.ref a :: rest)) := by
  obtain ⟨q, g1, -⟩ := haL_spec hg
  exact va_castA S.1 S.2.1 S.2.2.2.1 (S.2.2.2.2 _ hlink) (hw.P1 g1) 0 (by rfl) (va_nm_int (hK.2 kd _ ht).2) hdg kk
end HCLONE
theorem h_narA (t : FieldType) (x : Option Nat) : narrow (.array t) (va_rf x) = va_rf x := by cases x <;> rfl
theorem h_fitA (t : FieldType) (x : Option Nat) : fits (.array t) (va_rf x) = true := by cases x <;> rfl
section HNEWC
variable {p : Program} {l : Launch} {e : Env} {R : Room} {s : State} {m : MethodId} {args : Array Value} {below : List Frame} {meth : Method} {c : Code} {H : Heap} {locs : List Loc} {cells slots : Nat} {Q : State → Prop}
variable {cc : ByteArray} {nL pc : Nat} {ls : Array Slot} {rest : List Value} {D : va_G} {dA : Nat → ClassId} {cl : List vw_C} {tys : List (ClassId × FieldType)} {H0 : Heap} {b0 nx : Nat} {h : hH} {Ts : List Cond} {own : String}
theorem h_newic (S : CallFix p m c cc nL s args Ts own) (harr : Cond.arrayClass .int ∈ Ts) (hK : va_K D cl tys s) {kd : Nat} (ht : tys[kd]? = some (dA kd, .int)) (hw : hW D dA cl b0 nx h H) (hS : va_S (hA b0) H0 H locs) {n : Int32} {N : Nat} (hN : n.toNatClampNeg = N) (hn : ¬ n < 0) (hbytes : N * 4 ≤ 536870912) (hcells : cells + 1 ≤ R.cells) (hslots : slots + N ≤ R.slots) (hdg : decode cc pc = .ok (.newarray .int, 2))
    (kk : ∀ (H1 : Heap), hW D dA cl b0 (nx + 1) (va_up h nx (some (.inl (kd, N, .inl (fun _ => 0))))) H1 → va_S (hA b0) H0 H1 locs → W p l e R s m args below meth c H1 locs (cells + 1) (slots + N) Q (F0 m (pc + 2) ls (.ref nx :: rest))) : W p l e R s m args below meth c H locs cells slots Q (F0 m pc ls (.int n :: rest)) := by
  subst hN
  exact h_newi S harr hK ht hw hS hn hbytes hcells hslots hdg kk
theorem h_newqc (S : CallFix p m c cc nL s args Ts own) {C : String} {index : Nat} (hcl : Cond.classLink own index C ∈ Ts) (hO : va_AO C s) (hK : va_K D cl tys s) {kd : Nat} (ht : tys[kd]? = some (dA kd, .object C)) (hw : hW D dA cl b0 nx h H) (hS : va_S (hA b0) H0 H locs) {n : Int32} {N : Nat} (hN : n.toNatClampNeg = N) (hn : ¬ n < 0) (hbytes : N * 4 ≤ 536870912) (hcells : cells + 1 ≤ R.cells) (hslots : slots + N ≤ R.slots) (hdg : decode cc pc = .ok (.anewarray index, 3))
    (kk : ∀ (H1 : Heap), hW D dA cl b0 (nx + 1) (va_up h nx (some (.inl (kd, N, .inr (.inr (.inr (.inr (fun _ => none)))))))) H1 → va_S (hA b0) H0 H1 locs → W p l e R s m args below meth c H1 locs (cells + 1) (slots + N) Q (F0 m (pc + 3) ls (.ref nx :: rest))) : W p l e R s m args below meth c H locs cells slots Q (F0 m pc ls (.int n :: rest)) := by
  subst hN
  exact h_newq S hcl hO hK ht hw hS hn hbytes hcells hslots hdg kk
end HNEWC
