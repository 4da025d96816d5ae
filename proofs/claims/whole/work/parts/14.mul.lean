/-! AN ARRAY OF ARRAYS OF INTS IN ONE INSTRUCTION -/
def hmulH (ko ki N M nx : Nat) (h : hH) : hH := fun a => if a = nx then some (.inl (ko, N, .inr (.inr (.inr (.inr fun j => if j < N then some (nx + 1 + j) else none))))) else if nx < a ∧ a < nx + 1 + N then some (.inl (ki, M, .inl fun _ => 0)) else h a
/-- a new array of arrays -/
def hmul (ko ki N M nx : Nat) (h : hH) : hR Nat := some (nx, 1 + N, N + N * M, hmulH ko ki N M nx h)
theorem hmul_some {β : Type} {ko ki N M nx : Nat} {h : hH} {k : Nat → Nat → hH → hR β} {b : β} {dn ds : Nat} {h' : hH} (e : hbind (hmul ko ki N M nx h) nx k = some (b, dn, ds, h')) : ∃ (h1 : hH) (d' e' : Nat), h1 = hmulH ko ki N M nx h ∧ k nx (nx + (1 + N)) h1 = some (b, d', e', h') ∧ dn = (1 + N) + d' ∧ ds = (N + N * M) + e' := by
  obtain ⟨a, d, e1, h1, d', e', g1, g2, g3, g4⟩ := hbind_some e
  cases g1
  exact ⟨_, d', e', rfl, g2, g3, g4⟩
/-- i rounds of the making: the outer array at z, i inner ones behind it -/
def hMade (H0 H : Heap) (cO cI N M i : Nat) : Prop := H.size = H0.size + 1 + i ∧ (∀ q : Nat, q < H0.size → H[q]? = H0[q]?) ∧ H[H0.size]? = some (arrV cO N (fun j => va_rf (if j < i then some (H0.size + 1 + j) else none))) ∧ ∀ j : Nat, j < i → H[H0.size + 1 + j]? = some (arrV cI M (fun _ => .int 0))
theorem hm_outer (c : ClassId) (N z : Nat) : ∀ i : Nat, Jvm.Free.Multi.outerC c N z i = arrV c N (fun j => va_rf (if j < i then some (z + 1 + j) else none))
  | 0 => by
    show ({ cls := c, slots := Array.replicate N .null, vm := .none } : Cell) = _
    rw [arrV_new]
    exact congrArg (arrV c N) (funext fun j => by simp [va_rf])
  | i + 1 => by
    show (Jvm.Free.Multi.outerC c N z i).setSlot i (.ref (z + 1 + i)) = _
    rw [hm_outer c N z i, arrV_store]
    refine congrArg (arrV c N) (funext fun j => ?_)
    by_cases e : j = i
    · subst e
      simp [updV, va_rf]
    · by_cases q : j < i
      · simp [updV, e, q, Nat.lt_succ_of_lt q]
      · simp [updV, e, q, show ¬ j < i + 1 by omega]
section HMULR
variable {p : Program} {l : Launch} {e : Env} {R : Room} {s : State} {m : MethodId} {args : Array Value} {below : List Frame} {meth : Method} {c : Code} {H : Heap} {locs : List Loc} {cells slots : Nat} {Q : State → Prop}
variable {cc : ByteArray} {nL pc : Nat} {ls : Array Slot} {rest : List Value} {D : va_G} {dA : Nat → ClassId} {cl : List vw_C} {tys : List (ClassId × FieldType)} {H0 : Heap} {b0 nx : Nat} {h : hH} {Ts : List Cond} {own : String}
theorem h_mulW {T' : Heap} {N M ko ki : Nat} (hw : hW D dA cl b0 nx h H) (hS : va_S (hA b0) H0 H locs) {locs' : List Loc} (hm : hMade H T' (dA ko) (dA ki) N M N) (hloc : ∀ x ∈ locs', x ∈ locs ∨ x.base = H.size) : hW D dA cl b0 (nx + (1 + N)) (hmulH ko ki N M nx h) T' ∧ va_S (hA b0) H0 T' locs' := by
  have hnx := hw.1
  have hb := hw.2.1
  refine ⟨⟨by rw [hm.1, hnx]; omega, by omega, fun a q hq => ?_⟩, Nat.le_trans hS.1 (by rw [hm.1]; omega), fun x h1 h2 => (hm.2.1 x (Nat.lt_of_lt_of_le h1 hS.1)).trans (hS.2.1 x h1 h2), fun x hx => ?_⟩
  · unfold hmulH at hq
    split at hq
    · rename_i ha
      cases hq
      subst ha
      refine ⟨hb, ?_⟩
      show T'[_]? = some (vp_cell _ _)
      rw [vp_cell_q, ← hnx, hm.2.2.1]
    · split at hq
      · rename_i ha
        cases hq
        refine ⟨by omega, ?_⟩
        show T'[_]? = some (vp_cell _ _)
        rw [vp_cell_i]
        have h5 := hm.2.2.2 (a - (nx + 1)) (by omega)
        rw [hnx, show nx + 1 + (a - (nx + 1)) = a by omega] at h5
        exact h5
      · have h6 := hw.2.2 a q hq
        exact ⟨h6.1, h6.2.kept (hm.2.1 a h6.2.lt)⟩
  · rcases hloc x hx with q | q
    · exact hS.2.2 x q
    · show b0 ≤ x.base
      rw [q, hnx]
      exact hb
theorem h_mul (S : CallFix p m c cc nL s args Ts own) {index ko ki : Nat} {C : String} (hcl : Cond.classLink own index C ∈ Ts) (hC : "[" ++ (FieldType.array .int).toString = C) (hov : hAA s) (har : Cond.arrayClass .int ∈ Ts) (hK : va_K D cl tys s) (ho : tys[ko]? = some (dA ko, .array .int)) (hi : tys[ki]? = some (dA ki, .int)) (hw : hW D dA cl b0 nx h H) (hS : va_S (hA b0) H0 H locs) {n k : Int32} {N M : Nat} (hN : n.toNatClampNeg = N) (hM : k.toNatClampNeg = M) (hn : ¬ n < 0) (hk : ¬ k < 0) (hb1 : N * 4 ≤ 536870912) (hb2 : M * 4 ≤ 536870912) (hcells : cells + (1 + N) ≤ R.cells) (hslots : slots + (N + N * M) ≤ R.slots) (hdg : decode cc pc = .ok (.multianewarray index 2, 4))
    (kk : ∀ (H1 : Heap), hW D dA cl b0 (nx + (1 + N)) (hmulH ko ki N M nx h) H1 → va_S (hA b0) H0 H1 locs → W p l e R s m args below meth c H1 locs (cells + (1 + N)) (slots + (N + N * M)) Q (F0 m (pc + 4) ls (.ref nx :: rest))) : W p l e R s m args below meth c H locs cells slots Q (F0 m pc ls (.int k :: .int n :: rest)) := by
  subst hC
  subst hN
  subst hM
  intro T hT X
  obtain ⟨vm₁, cA, comp, -, fA, fC, -, -, X', step⟩ := X.multianewarray2F S.1 S.2.2.2.1 (S.2.2.2.2 _ hcl) (hAA.use hov) (S.2.2.2.2 _ har) (g := F0 m pc ls (.int k :: .int n :: rest)) rfl (by rw [S.2.1]; exact hdg) rfl hn hk hb1 hb2 (by omega) rfl rfl hcells hslots
  have eA : cA = dA ko := Option.some.inj (fA.symm.trans (hK.2 ko _ ho).2)
  have eI : comp = dA ki := Option.some.inj (fC.symm.trans (hK.2 ki _ hi).2)
  rw [eA, eI] at X' step
  have f1 := Jvm.Free.Multi.fill_facts (T.setVm vm₁) (dA ko) (dA ki) n.toNatClampNeg k.toNatClampNeg (defaultValue .int) n.toNatClampNeg
  have f2 := fun (a : Nat) (ha : a < (T.setVm vm₁).heap.size) => Jvm.Free.Multi.fill_old (T.setVm vm₁) (dA ko) (dA ki) n.toNatClampNeg k.toNatClampNeg (defaultValue .int) (a := a) ha n.toNatClampNeg
  have f3 := fun (j : Nat) (hj : j < n.toNatClampNeg) => Jvm.Free.Multi.fill_inner (T.setVm vm₁) (dA ko) (dA ki) n.toNatClampNeg k.toNatClampNeg (defaultValue .int) n.toNatClampNeg j hj
  generalize Jvm.Free.Multi.fill (T.setVm vm₁) (dA ko) (dA ki) n.toNatClampNeg k.toNatClampNeg (defaultValue .int) n.toNatClampNeg = F at X' step f1 f2 f3
  have hTh : (T.setVm vm₁).heap = H := hT
  rw [hTh] at f1 f2 f3
  have hm : hMade H F.heap (dA ko) (dA ki) n.toNatClampNeg k.toNatClampNeg n.toNatClampNeg := by
    refine ⟨f1.1, f2, ?_, fun j hj => ?_⟩
    · rw [f1.2.1, hm_outer]
    · rw [f3 j hj]
      show some ({ cls := dA ki, slots := Array.replicate k.toNatClampNeg (.int 0), vm := .none } : Cell) = _
      rw [arrV_new]
  obtain ⟨q1, q2⟩ := h_mulW hw hS hm (locs' := locs) (fun x hx => Or.inl hx)
  rw [Nat.add_assoc, Nat.add_assoc] at X'
  obtain ⟨t, a1, b1⟩ := kk _ q1 q2 F rfl X'
  refine ⟨t, step t ?_, b1⟩
  rw [show T.heap.size = nx by rw [hT]; exact hw.1]
  exact a1
end HMULR
theorem h_bytes2 {x k : Int32} (z : ¬ (x < 0 ∨ k < 0 ∨ 134217728 < x.toNatClampNeg ∨ 134217728 < k.toNatClampNeg)) : x.toNatClampNeg * 4 ≤ 536870912 ∧ k.toNatClampNeg * 4 ≤ 536870912 := by
  have h1 : ¬ 134217728 < x.toNatClampNeg := fun q => z (Or.inr (Or.inr (Or.inl q)))
  have h2 : ¬ 134217728 < k.toNatClampNeg := fun q => z (Or.inr (Or.inr (Or.inr q)))
  omega
