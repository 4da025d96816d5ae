/-! THE REFERENCE'S CALL expand -/
theorem RV.h2 {st : rS} {xs : List Int32} (h : RV st xs) : H2 st := by
  obtain ⟨hd, h1, h2, -⟩ := h
  exact ⟨hd, h1, h2⟩
theorem H2.nil {st : rS} (h : H2 st) (h3 : st.1 3 = 0) : RV st [] := by
  obtain ⟨hd, h1, h2⟩ := h
  exact ⟨hd, h1, h2, h3, by simp, fun k t hk => by simp at hk⟩
theorem g_fin {i : Int32} {st : rS} {res : Int32 × aS} (h : (res.1 = 0 ∧ st.1 21 = 0 ∧ RX st res.2 ∧ RV st (res.2.2.1 0)) ∨ (st.1 21 = res.1 ∧ res.1 ≠ 0 ∧ RX st res.2 ∧ H2 st)) : ∃ st', g_ended i st = some (if res.1 = 0 then i else -res.1, st') ∧ RX st' (eFin res) ∧ RV st' ((eFin res).2.1 0) ∧ st'.1 21 = res.1 := by
  unfold g_ended eFin
  dsimp only
  rcases h with ⟨hz, h21, hX, hV⟩ | ⟨h21, hz, hX, hH⟩
  · rw [if_pos h21]
    simp only [if_pos hz]
    exact ⟨st, rfl, (hX.pi 6 0 (by decide)).pi 7 0 (by decide), hV, h21.trans hz.symm⟩
  · rw [if_neg (by rw [h21]; exact hz)]
    simp only [if_neg hz]
    have hX1 : RX (rput st 3 0) res.2 := hX.k (rK_put st 3 0 (by decide)) rfl rfl rfl rfl
    refine ⟨rput st 3 0, ?_, ((hX1.pl 0 [] (by omega)).pi 6 _ (by decide)).pi 7 _ (by decide), ?_, h21⟩
    · rw [show (rput st 3 0).1 21 = st.1 21 from rfl, h21]
    · show RV (rput st 3 0) (va_up res.2.2.1 0 [] 0)
      rw [va_up_self]
      exact H2.nil (H2_put hH (by decide)) rfl
theorem g_expand_at {n : Nat} {b p q : Int32} {st : rS} {A : aS} {res : Int32 × aS} (hX : RX st (aMl A p q)) (hV : RV st (A.2.1 0)) (hp : pInv A) (hR : pRun b A res) (hn : 100000000 < n) : ∃ st', g_expand n b st = some (eAns b res, st') ∧ RX st' (eFin res) ∧ RV st' ((eFin res).2.1 0) ∧ st'.1 21 = res.1 := by
  obtain ⟨x0, x1, x2, x3, x4, x5, x6, x7, x8⟩ := id hX
  have hc16 : ∃ c, c ≤ 100 ∧ A.1 16 = nI c := by
    obtain ⟨c, h1, h2, -⟩ := x5
    exact ⟨c, h1, h2⟩
  generalize hs1 : rput (rput (rput (rput (rput (rput (rput st 21 0) 22 0) 23 0) 24 0) 25 0) 32 0) 33 (-1) = s1
  have s1a : s1.2 = st.2 := by rw [← hs1]; rfl
  have s1i : ∀ j, j < 21 → s1.1 j = st.1 j := fun j hj => by
    rw [← hs1]
    show upd (upd (upd (upd (upd (upd (upd st.1 21 0) 22 0) 23 0) 24 0) 25 0) 32 0) 33 (-1) j = st.1 j
    rw [upd_other (by omega), upd_other (by omega), upd_other (by omega), upd_other (by omega), upd_other (by omega), upd_other (by omega), upd_other (by omega)]
  have s1_21 : s1.1 21 = 0 := by rw [← hs1]; rfl
  have s1_22 : s1.1 22 = 0 := by rw [← hs1]; rfl
  have s1_23 : s1.1 23 = 0 := by rw [← hs1]; rfl
  have s1_24 : s1.1 24 = 0 := by rw [← hs1]; rfl
  have s1_25 : s1.1 25 = 0 := by rw [← hs1]; rfl
  have s1_32 : s1.1 32 = 0 := by rw [← hs1]; rfl
  have s1_33 : s1.1 33 = -1 := by rw [← hs1]; rfl
  have hbeg : g_begin st = some ((), s1) := by
    unfold g_begin
    dsimp only
    rw [rputZ_at (Or.inl rfl), Option.bind_some, hs1]
  have V1 : RV s1 (A.2.1 0) := hV.same (s1i 2 (by omega)) (s1i 3 (by omega)) (by rw [s1a])
  have hl : ∀ j, j ≠ 8 → (eBegin A).2.1 j = A.2.1 j := fun j hj => va_up_ne _ _ hj
  have M1 : rM s1 A := (x4.k (s1i 6 (by omega)) (s1i 14 (by omega)) (fun j _ _ => by rw [s1a])).abs rfl rfl (fun _ _ => rfl) rfl rfl
  have N1 : rN s1 A := (x5.k (s1i 16 (by omega)) (by rw [s1a]) (by rw [s1a])).abs rfl (fun _ _ _ => rfl)
  have T1 : RT s1 [] := ⟨s1_25, by simp, fun i q hi => by simp at hi⟩
  have X1 : RX s1 (eBeg1 A) := ⟨(s1i 0 (by omega)).trans x0, s1_23, s1_22, T1, M1.abs (hl 2 (by omega)) (hl 3 (by omega)) (fun j hj => hl j (by omega)) rfl rfl, N1.abs rfl (fun j h1 h2 => hl j (by omega)), (show RO s1 (A.2.1 1) from x6.same (s1i 4 (by omega)) (by rw [s1a])), s1_32, s1_33⟩
  unfold g_expand
  rw [hbeg]
  simp only [gbW]
  unfold pRun at hR
  by_cases hb : b = 0
  · rw [if_pos hb] at hR
    rw [if_pos hb, V1.size]
    obtain ⟨ha, hf⟩ := hp.a1 hc16
    have hno : ¬ aCan (eBeg1 A) = true → ∃ st', g_expand_j28 n s1 = some (eAns b res, st') ∧ RX st' (eFin res) ∧ RV st' ((eFin res).2.1 0) ∧ st'.1 21 = res.1 := by
      intro hcan
      rw [if_neg hcan] at hR
      subst hR
      obtain ⟨st', e1, r1, r2, r3⟩ := g_fin (i := s1.1 3) (st := s1) (res := (0, eBeg1 A)) (Or.inl ⟨rfl, s1_21, X1, V1⟩)
      refine ⟨st', ?_, r1, r2, r3⟩
      unfold g_expand_j28 eAns
      dsimp only
      rw [e1, if_pos hb, V1.size]
      rfl
    by_cases h0 : (A.2.1 0).length = 0
    · rw [h0, if_pos (by decide)]
      refine hno (fun q => ?_)
      obtain ⟨-, t, ts, hx, -⟩ := can_cons q
      rw [show A.2.1 0 = t :: ts from hx] at h0
      simp at h0
    · have hle := V1.le
      rw [if_neg (show ¬ nI (A.2.1 0).length ≤ (0 : Int32) from nI_ge (a := 0) (by omega) (by omega))]
      obtain ⟨t, ts, hx⟩ : ∃ t ts, A.2.1 0 = t :: ts := by
        cases hx : A.2.1 0 with
        | nil => rw [hx] at h0; exact absurd rfl h0
        | cons t ts => exact ⟨t, ts, rfl⟩
      have hg : g_get (nI 0) s1 = some t := V1.get (by rw [hx]; rfl)
      have hcn : aCan (eBeg1 A) = aHas (eBeg1 A) t := by
        unfold aCan
        rw [show (eBeg1 A).2.1 0 = t :: ts from hx]
        exact Bool.true_and _
      rw [show g_canBeExpanded (0 : Int32) s1 = _ from RQ.can X1.2.2.2.2.1 hg, Option.bind_some, b01_if]
      by_cases hcan : aCan (eBeg1 A) = true
      · rw [if_pos hcan] at hR
        rw [← hcn, if_pos hcan]
        obtain ⟨s2, e2, o2, -⟩ := g_expandAt_at (n := n) (N := 230000) (st := s1) (by omega) (by omega) X1 V1 s1_24 s1_21 ha hcan rfl rfl hR
        have hH : H2 s2 := h2_g_expandAt n 0 s1 V1.h2 () s2 e2
        rw [e2]
        dsimp only
        obtain ⟨st', e3, r1, r2, r3⟩ := g_fin (i := s2.1 3) (st := s2) (res := res) (by
          rcases o2 with ⟨hz, hQ, -, -, hf8⟩ | ⟨h211, hne, hX2⟩
          · have hv := hQ.2.1.2.2.1
            rw [hf8] at hv
            exact Or.inl ⟨hz, hQ.2.2.2, hQ.1, hv⟩
          · exact Or.inr ⟨h211, hne, hX2, hH⟩)
        refine ⟨st', ?_, r1, r2, r3⟩
        unfold g_expand_j28 eAns
        dsimp only
        rw [e3, if_pos hb]
        simp only [gbW]
        rcases o2 with ⟨hz, hQ, -, -, hf8⟩ | ⟨h211, hne, hX2⟩
        · have hv := hQ.2.1.2.2.1
          rw [hf8] at hv
          rw [if_pos hz, if_pos hz, hv.size]
          rfl
        · rw [if_neg hne, if_neg hne]
      · rw [← hcn, if_neg hcan]
        exact hno hcan
  · rw [if_neg hb] at hR
    rw [if_neg hb]
    obtain ⟨K, hK, hL⟩ := hR
    have hw := hp.w hc16
    have hl2 : ∀ j, j ≠ 1 → j ≠ 8 → (wBegin (eBegin A)).2.1 j = A.2.1 j := fun j h1 h8 => (va_up_ne _ _ h1).trans (hl j h8)
    have X2 : RX (rput s1 4 0) (wBegin (eBegin A)) := ⟨(s1i 0 (by omega)).trans x0, s1_23, s1_22, T1, (M1.k rfl rfl (fun _ _ _ => rfl)).abs (hl2 2 (by omega) (by omega)) (hl2 3 (by omega) (by omega)) (fun j hj => hl2 j (by omega) (by omega)) rfl rfl, (N1.k rfl rfl rfl).abs rfl (fun j h1 h2 => hl2 j (by omega) (by omega)), ⟨rfl, by simp [wBegin, aPi, aPl, va_up], fun i t hi => by simp [wBegin, aPi, aPl, va_up] at hi⟩, s1_32, s1_33⟩
    have V2 : RV (rput s1 4 0) ((wBegin (eBegin A)).2.1 0) := by
      rw [hl2 0 (by decide) (by decide)]
      exact V1.same rfl rfl rfl
    obtain ⟨s2, e2, o2⟩ := g_wloop (n := n) (by omega) K n (rput s1 4 0) (wBegin (eBegin A)) ⟨X2, V2, s1_24, s1_21⟩ hw rfl (by omega) (by omega) hL
    have hH : H2 s2 := K2_loop (h2_g_expand_b42 n) n () (rput s1 4 0) V2.h2 () s2 e2
    rw [e2]
    dsimp only
    have hend : ∀ s3 : rS, (res.1 = 0 ∧ s3.1 21 = 0 ∧ RX s3 res.2 ∧ RV s3 (res.2.2.1 0)) ∨ (s3.1 21 = res.1 ∧ res.1 ≠ 0 ∧ RX s3 res.2 ∧ H2 s3) → ∃ st', g_expand_j112 n s3 = some (eAns b res, st') ∧ RX st' (eFin res) ∧ RV st' ((eFin res).2.1 0) ∧ st'.1 21 = res.1 := by
      intro s3 h3
      obtain ⟨st', e3, r1, r2, r3⟩ := g_fin (i := s3.1 4) (st := s3) (res := res) h3
      refine ⟨st', ?_, r1, r2, r3⟩
      unfold g_expand_j112 eAns
      dsimp only
      rw [e3, if_neg hb]
      simp only [gbW]
      rcases h3 with ⟨hz, -, hX3, -⟩ | ⟨-, hz, -⟩
      · rw [if_pos hz, if_pos hz, hX3.2.2.2.2.2.2.1.1]
      · rw [if_neg hz, if_neg hz]
    rcases o2 with ⟨h21, B, hres, hXB, hVB, hB0, hB10, hwB⟩ | ⟨h21, hne, hXr⟩
    · rw [if_pos h21, hXB.2.2.2.2.2.2.2.1]
      by_cases h8 : B.1 8 = 0
      · rw [if_pos h8]
        have hr : res = (0, B) := by
          rw [hres]
          unfold wEnd
          rw [if_pos ⟨h8, hB10⟩]
        refine hend s2 (Or.inl ?_)
        rw [hr]
        exact ⟨rfl, h21, hXB, by rw [hB0]; exact hVB⟩
      · rw [if_neg h8, g_mark_at]
        dsimp only
        have hr : res = (1, B) := by
          rw [hres]
          unfold wEnd
          rw [if_neg (fun q => h8 q.1)]
        refine hend _ (Or.inr ?_)
        rw [hr, if_pos h21]
        exact ⟨rfl, ne_0 (by decide), hXB.k (rK_put s2 21 1 (by decide)) rfl rfl rfl rfl, H2_put hH (by decide)⟩
    · rw [if_neg (by rw [h21]; exact hne)]
      exact hend s2 (Or.inr ⟨h21, hne, hXr, hH⟩)
