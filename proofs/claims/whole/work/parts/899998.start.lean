/-! THE BEGINNING OF THE RUN, and the law -/
theorem cl_lt {a b : Int64} (h : a.toInt < b.toInt) : lg_cmp a b = -1 := by
  unfold lg_cmp
  rw [if_neg (fun q => by have := Int64.lt_iff_toInt_lt.mp q; omega), if_neg (fun q => by rw [q] at h; omega)]
theorem cl_gt {a b : Int64} (h : b.toInt < a.toInt) : lg_cmp a b = 1 := by
  unfold lg_cmp
  rw [if_pos (Int64.lt_iff_toInt_lt.mpr h)]
theorem cl_eq {a : Int64} : lg_cmp a a = 0 := by
  unfold lg_cmp
  rw [if_neg (fun q => by have := Int64.lt_iff_toInt_lt.mp q; omega), if_pos rfl]
theorem u_clamp (v : Int32) : ∃ g : Nat, g ≤ 20000 ∧ (if (if v.toInt64 < (20000 : Int64) then v.toInt64 else (20000 : Int64)) < (1 : Int64) then (1 : Int64) else (if v.toInt64 < (20000 : Int64) then v.toInt64 else (20000 : Int64))).toInt32 = nI g ∧ rG v.toInt64 = nI g := by
  have hv : v.toInt64.toInt = v.toInt := Int32.toInt_toInt64 v
  have h20 : (20000 : Int64).toInt = 20000 := by decide
  have h1 : (1 : Int64).toInt = 1 := by decide
  unfold rG
  by_cases c1 : v.toInt < 1
  · refine ⟨1, by omega, ?_, ?_⟩
    · rw [show (if v.toInt64 < (20000 : Int64) then v.toInt64 else (20000 : Int64)) = v.toInt64 from if_pos (Int64.lt_iff_toInt_lt.mpr (by omega)), if_pos (Int64.lt_iff_toInt_lt.mpr (by omega))]
      rfl
    · rw [cl_lt (by omega), if_neg (by decide)]
      rfl
  · have c0 : ¬ v < 0 := fun q => by
      have := Int32.lt_iff_toInt_lt.mp q
      have h0 : (0 : Int32).toInt = 0 := by decide
      omega
    obtain ⟨g, hg, rfl⟩ := nI_of c0
    have hgi : (nI g).toInt = (g : Int) := nI_toInt hg
    have hp : 0 ≤ lg_cmp (nI g).toInt64 1 := by
      by_cases e : (nI g).toInt64.toInt = (1 : Int64).toInt
      · rw [Int64.toInt_inj.mp e, cl_eq]
        decide
      · rw [cl_gt (by omega)]
        decide
    rw [if_pos hp]
    by_cases c2 : (nI g).toInt < 20000
    · refine ⟨g, by omega, ?_, ?_⟩
      · rw [show (if (nI g).toInt64 < (20000 : Int64) then (nI g).toInt64 else (20000 : Int64)) = (nI g).toInt64 from if_pos (Int64.lt_iff_toInt_lt.mpr (by omega)), if_neg (fun q => by have := Int64.lt_iff_toInt_lt.mp q; omega)]
        exact Int32.toInt32_toInt64 _
      · rw [cl_lt (by omega), if_pos (by decide)]
        exact Int32.toInt32_toInt64 _
    · refine ⟨20000, by omega, ?_, ?_⟩
      · rw [show (if (nI g).toInt64 < (20000 : Int64) then (nI g).toInt64 else (20000 : Int64)) = 20000 from if_neg (fun q => by have := Int64.lt_iff_toInt_lt.mp q; omega), if_neg (by decide)]
        rfl
      · by_cases e : (nI g).toInt64.toInt = (20000 : Int64).toInt
        · rw [Int64.toInt_inj.mp e, cl_eq, if_pos (by decide)]
          rfl
        · rw [cl_gt (by omega), if_neg (by decide)]
          rfl
theorem pInv_0 {g : Nat} (hg : g ≤ 20000) : pInv (aZ (nI g)) := by
  have hp : aPos [] := fun t ht => by simp at ht
  refine ⟨⟨⟨Nat.zero_le _, fun i hi => Or.inl rfl⟩, rfl, ⟨g, hg, rfl⟩, fun m hm => absurd hm (Nat.not_lt_zero _), ⟨0, by omega, rfl⟩, Or.inl rfl, hp, fun a i ha hi => Or.inl rfl⟩, hp, Nat.zero_le _⟩
theorem RX_0 (G : Int32) : RX (rZ G 200) (aMl (aZ G) 0 0) := by
  refine ⟨rfl, rfl, rfl, ⟨rfl, Nat.zero_le _, fun i q hi => ?_⟩, ⟨rfl, fun m hm => absurd hm (Nat.not_lt_zero _), fun i hi => ?_, 0, Nat.zero_le _, rfl, rfl, fun j i hj => absurd hj (Nat.not_lt_zero _)⟩, ⟨0, Nat.zero_le _, rfl, rfl, fun i hi => absurd hi (Nat.not_lt_zero _)⟩, ⟨rfl, Nat.zero_le _, fun i t hi => ?_⟩, rfl, rfl⟩
  · rw [show (aMl (aZ G) 0 0).2.2.2 = [] from rfl] at hi
    simp at hi
  · show (if 8 = 8 ∧ i < 200 then (-1 : Int32) else 0) = -1
    rw [if_pos ⟨rfl, hi⟩]
  · rw [show (aMl (aZ G) 0 0).2.1 1 = [] from rfl] at hi
    simp at hi
theorem pub_0 {x g : Nat} {o : oT} {h : hH} (hg : g ≤ 20000) (hQ : cQ x o (x + 85) h cp0 (aZ (nI g))) (hX : cX x o h (aZ (nI g))) (hD : cD x o h cp0 (aZ (nI g))) (hW : cW x o h cp0 (aZ (nI g))) : Pub x (x + 108) (rZ (nI g) 200) (oR o (x + 85) 23 9) (rE (x + 85) (rZ (nI g) 200) h) cp0 (aZ (nI g)) := by
  have hO : Own o (x + 85) := hQ.1
  have F : Fr (fun _ => False) o (oR o (x + 85) 23 9) h h := (Old.rng (fun _ _ => rfl)).fr hO
  have t9 : ∀ j, j < 23 → oR o (x + 85) 23 9 (x + 85 + j) = some 9 := fun j hj => oR_in (by omega) (by omega)
  have hP : cP x (oR o (x + 85) 23 9) (x + 108) h cp0 (aZ (nI g)) := ⟨hQ.fr F hO.rng (fun _ _ q => q) (fun _ _ _ => rfl) (fun _ _ => rfl) (fun _ _ => rfl) rfl, hX.fr F (fun q => q) rfl rfl, hD.fr F (fun q => q) (fun _ _ _ q => q) (fun _ _ _ => rfl) (fun _ _ _ => rfl) (fun _ _ _ => rfl), hW.fr F (fun q => q) (fun q => q) rfl rfl rfl rfl, t9⟩
  refine ⟨hP.ref (rE_fr t9), (rE_idem _ _ _ _).symm, pInv_0 hg, ⟨0, 0, RX_0 _⟩, ⟨0, by omega, rfl, rfl, Nat.zero_le _, fun k t hk => ?_⟩, rfl, fun _ => rfl, fun q => absurd rfl q⟩
  rw [show (aZ (nI g)).2.1 0 = [] from rfl] at hk
  simp at hk
theorem law_cell (L : Nat) (xs : Nat → Int32) (hL : L ≤ 2049) : ∃ v : Int32, ∀ h : hH, f_MacroExpandLaw_cell L xs 0 h = some v := by
  by_cases h0 : L = 0
  · refine ⟨0, fun h => ?_⟩
    unfold f_MacroExpandLaw_cell
    rw [if_pos (by rw [h0]; decide)]
  · refine ⟨xs 0, fun h => ?_⟩
    unfold f_MacroExpandLaw_cell
    rw [if_neg (show ¬ nI L ≤ (0 : Int32) from nI_ge (a := 0) (by omega) (by omega)), show (0 : Int32) = nI 0 from rfl, hSc_at (by omega) (by omega), Option.bind_some]
theorem law_all (L : Nat) (xs : Nat → Int32) (nx : Nat) (hL : L ≤ 2049) : ∃ (n dn ds : Nat) (h' : hH), f_MacroExpandLaw_law n L xs nx (fun _ => none) = some (1, dn, ds, h') ∧ dn ≤ 600000 ∧ ds ≤ 7302250 := by
  obtain ⟨v, hv⟩ := law_cell L xs hL
  obtain ⟨g, hg, q1, q2⟩ := u_clamp v
  obtain ⟨e1, h1, p1, p2, o, hQ, hX, hD, hW⟩ := u_all (n := 200000001) (x := nx) (h := fun _ => none) q1 (by omega)
  obtain ⟨e2, h2, p3, p4, p5⟩ := r_init (n := 200000001) (m := nx + 85) (s := v.toInt64) (h := h1) (by omega)
  rw [q2] at p5
  have hp := pub_0 hg hQ hX hD hW
  rw [← p5] at hp
  obtain ⟨d, e, h3, p6, p7, p8⟩ := law_loop (n := 200000001) (L := L) (xs := xs) (by omega) hL hp
  refine ⟨200000001, 1 + (84 + (1 + (22 + (d + 0)))), 7 + (e1 + (37 + (e2 + (e + 0)))), h3, ?_, by omega, by omega⟩
  unfold f_MacroExpandLaw_law
  have s1 : ∀ (β : Type) (K : Nat → Nat → hH → hR β) (c : hC) (len a : Nat) (h : hH), hbind (hnew c len a h) a K = (match K a (a + 1) (va_up h a (some c)) with
    | none => none
    | some (b, d', e', h') => some (b, 1 + d', len + e', h')) := fun _ _ _ _ _ _ => rfl
  have s2 : ∀ (α β : Type) (K : α → Nat → hH → hR β) (x : hR α) (a : α) (nx' d1 e1 : Nat) (h' : hH), x = some (a, d1, e1, h') → hbind x nx' K = (match K a (nx' + d1) h' with
    | none => none
    | some (b, d', e', h'') => some (b, d1 + d', e1 + e', h'')) := fun _ _ _ _ _ _ _ _ _ q => by rw [q]; rfl
  rw [s1, hv, Option.bind_some, s2 _ _ _ _ _ _ _ _ _ p1, s1, hv, Option.bind_some, s2 _ _ _ _ _ _ _ _ _ p3, s2 _ _ _ _ _ _ _ _ _ p6]
