/-! THE CLASS'S CALL expand -/
theorem c_begin {x nx : Nat} {o : oT} {h : hH} {cp : Nat → Nat} {A : aS} (hP : cP x o nx h cp A) : ∃ h', f_Expander_begin (x + 30) h = some ((), h') ∧ Fr cWw o o h h' ∧ cP x o nx h' cp (eBegin A) := by
  have hE := hP.1.2.2.2.1
  have hT := hP.1.2.2.2.2.1
  obtain ⟨h1, e1, T1, F1⟩ := hT.clear
  have E1 := hE.fr F1 (by decide) (by decide)
  have q1 := E1.eo.1
  obtain ⟨f, s, g, -, w1, w2, w3, t1, t2, t3, -, -⟩ := id E1
  have F2 : Fr (fun b => b = 4) o o h1 (va_up h1 (x + 30) (k5 (A.1 0) (x + 28) (x + 1) (x + 25) (x + 31) (x + 35) (x + 55) (x + 56) (x + 57) 0 0 0 0 0)) := Fr.u1 E1.eo.2
  have F12 : Fr (fun b => b = 4 ∨ b = 5) o o h (va_up h1 (x + 30) (k5 (A.1 0) (x + 28) (x + 1) (x + 25) (x + 31) (x + 35) (x + 55) (x + 56) (x + 57) 0 0 0 0 0)) := (F1.mono (fun l q => Or.inr q)).tr (F2.mono (fun l q => Or.inl q))
  have hl : ∀ j, j ≠ 8 → (eBegin A).2.1 j = A.2.1 j := fun j hj => va_up_ne _ _ hj
  have hi : ∀ j, j = 0 ∨ 5 ≤ j → (eBegin A).1 j = A.1 j := fun j hj => by
    show upd (upd (upd (upd A.1 4 0) 3 0) 1 0) 2 0 j = A.1 j
    rw [upd_other (by omega), upd_other (by omega), upd_other (by omega), upd_other (by omega)]
  have hn : ∀ l, ¬ (l = 4 ∨ l = 5) → ¬ (fun b => b = 4 ∨ b = 5) l := fun l q => q
  have E2 : cE x o (va_up h1 (x + 30) (k5 (A.1 0) (x + 28) (x + 1) (x + 25) (x + 31) (x + 35) (x + 55) (x + 56) (x + 57) 0 0 0 0 0)) (eBegin A) := by
    refine ⟨f, s, g, ⟨va_up_self _ _ _, E1.eo.2⟩, ((F2 _ _ t1).2 (by decide)).trans w1, ((F2 _ _ t2).2 (by decide)).trans w2, ((F2 _ _ t3).2 (by decide)).trans w3, t1, t2, t3, by show (0 : Nat) ≤ 50; omega, fun i t hi => ?_⟩
    rw [show (eBegin A).2.1 8 = [] from rfl] at hi
    simp at hi
  refine ⟨_, ?_, F12.mono (fun l q => by unfold cWw; omega), hP.1.mk F12 (fun l hl => hn l (by omega)) (fun j hj => hl j (by omega)) rfl (hi 15 (by omega)) (hi 16 (by omega)) ((hP.1.2.2.1.fr F1 (by decide)).fr F2 (by decide)) E2 (T1.fr F2 (by decide)), hP.2.1.fr F12 (by decide) (hi 6 (by omega)) (hi 7 (by omega)), hP.2.2.1.fr F12 (by decide) (fun l h1 h2 => hn l (by omega)) (fun j h1 h2 => hi j (by omega)) (fun j h1 h2 => hl j (by omega)) (fun _ _ _ => rfl), hP.2.2.2.1.fr F12 (by decide) (by decide) (hi 8 (by omega)) (hi 9 (by omega)) (hl 1 (by omega)) rfl, hP.2.2.2.2⟩
  obtain ⟨fs, ho⟩ := hT.obj
  unfold f_Expander_begin
  rw [k5_g4 hE.eo.1, Option.bind_some, Option.bind_some, ho, Option.bind_some, e1]
  simp only [hbW]
  rw [k5_p9 q1, Option.bind_some, k5_z10 (va_up_self _ _ _) 0 (Or.inl rfl), Option.bind_some, k5_z11 (va_up_self _ _ _) 0 (Or.inl rfl), Option.bind_some, k5_p12 (va_up_self _ _ _), Option.bind_some, k5_p13 (va_up_self _ _ _), Option.bind_some, va_up_up, va_up_up, va_up_up, va_up_up]
/-- the latest fault and its name are written -/
theorem cP.x {x nx : Nat} {o : oT} {h : hH} {cp : Nat → Nat} {A : aS} (B : aS) {v : Option hC} (hP : cP x o nx h cp A) (hv : v = k0 (x + 1) (x + 25) (x + 28) (x + 30) (x + 58) (B.1 6) (B.1 7)) (hi : ∀ j, j ≠ 6 → j ≠ 7 → B.1 j = A.1 j) (hl : B.2 = A.2) : cP x o nx (va_up h x v) cp B ∧ Fr (fun b => b = 0) o o h (va_up h x v) := by
  have F : Fr (fun b => b = 0) o o h (va_up h x v) := Fr.u1 hP.2.1.2
  exact ⟨⟨hP.1.fr F hP.1.1 (fun l hl => by show ¬ l = 0; omega) (fun _ _ _ => rfl) (fun j hj => hi j (by omega) (by omega)) (fun j _ => by rw [hl]) (by rw [hl]), ⟨by rw [va_up_self, hv], hP.2.1.2⟩, hP.2.2.1.fr F (by decide) (fun l h1 h2 => by show ¬ l = 0; omega) (fun j h1 h2 => hi j (by omega) (by omega)) (fun j _ _ => by rw [hl]) (fun _ _ _ => rfl), hP.2.2.2.1.fr F (by decide) (by decide) (hi 8 (by decide) (by decide)) (hi 9 (by decide) (by decide)) (by rw [hl]) rfl, hP.2.2.2.2⟩, F⟩
def eFin (r : Int32 × aS) : aS := if r.1 = 0 then aPi (aPi r.2 6 0) 7 0 else aPi (aPi (aPl r.2 0 []) 6 r.1) 7 (r.2.1 2)
def eAns (b : Int32) (r : Int32 × aS) : Int32 := if r.1 = 0 then (if b = 0 then nI (r.2.2.1 0).length else nI (r.2.2.1 1).length) else -r.1
theorem c_fin {n x nx : Nat} {b : Int32} {o : oT} {h : hH} {cp : Nat → Nat} {r : Int32 × aS} (hP : cPr x o nx h cp r) : ∃ h', f_MacroExpand_expand_j42 n x b r.1 nx h = some (eAns b r, 0, 0, h') ∧ Fr cWw o o h h' ∧ cP x o nx h' cp (eFin r) := by
  unfold f_MacroExpand_expand_j42 eAns eFin
  by_cases hz : r.1 = 0
  · have P0 := hP.1 hz
    obtain ⟨P1, F1⟩ := P0.x (aPi (aPi r.2 6 0) 7 0) (v := k0 (x + 1) (x + 25) (x + 28) (x + 30) (x + 58) 0 0) rfl (fun j h1 h2 => by
      show upd (upd r.2.1 6 0) 7 0 j = r.2.1 j
      rw [upd_other h2, upd_other h1]) rfl
    refine ⟨va_up h x (k0 (x + 1) (x + 25) (x + 28) (x + 30) (x + 58) 0 0), ?_, F1.mono (fun l q => by unfold cWw; omega), by rw [if_pos hz]; exact P1⟩
    rw [k0_p5 P0.2.1.1, Option.bind_some, hz, if_pos rfl]
    unfold f_MacroExpand_expand_j63
    rw [Option.bind_some, k0_p6 (va_up_self _ _ _), Option.bind_some, va_up_up, if_pos rfl]
    by_cases hb : b = 0
    · rw [if_pos hb, if_pos hb, k0_g2 P1.2.1.1]
      simp only [Option.bind_some]
      rw [P1.1.2.2.1.size, Option.bind_some]
      rfl
    · rw [if_neg hb, if_neg hb, k0_g4 P1.2.1.1]
      simp only [Option.bind_some]
      rw [k11_g4 P1.2.2.2.1.1]
      simp only [Option.bind_some]
      rw [P1.2.2.2.1.2.2.1.size, Option.bind_some]
      rfl
  · obtain ⟨zs, P0⟩ := hP.2 hz
    obtain ⟨P1, F1⟩ := P0.x (aPi (aPi (aPl r.2 0 zs) 6 r.1) 7 (r.2.1 2)) (v := k0 (x + 1) (x + 25) (x + 28) (x + 30) (x + 58) r.1 (r.2.1 2)) rfl (fun j h1 h2 => by
      show upd (upd r.2.1 6 _) 7 _ j = r.2.1 j
      rw [upd_other h2, upd_other h1]) rfl
    have e30 : (va_up h x (k0 (x + 1) (x + 25) (x + 28) (x + 30) (x + 58) r.1 ((aPl r.2 0 zs).1 7))) (x + 30) = k5 (r.2.1 0) (x + 28) (x + 1) (x + 25) (x + 31) (x + 35) (x + 55) (x + 56) (x + 57) (nI ((aPl r.2 0 zs).2.1 8).length) (r.2.1 4) (r.2.1 3) (r.2.1 1) (r.2.1 2) := by
      rw [va_up_ne _ _ (by omega)]
      exact P0.1.2.2.2.1.eo.1
    obtain ⟨h2, e2, I2, F2⟩ := P1.1.2.2.1.clear
    have P2 := P1.i F2 I2
    refine ⟨h2, ?_, (F1.mono (fun l q => by unfold cWw; omega)).tr (F2.mono (fun l q => by unfold cWw; omega)), ?_⟩
    · rw [k0_p5 P0.2.1.1, Option.bind_some, if_neg hz, k0_g3 (va_up_self _ _ _)]
      simp only [Option.bind_some]
      rw [k5_g13 e30, Option.bind_some]
      unfold f_MacroExpand_expand_j63
      rw [Option.bind_some, k0_p6 (va_up_self _ _ _), Option.bind_some, va_up_up, if_neg hz, k0_g2 P1.2.1.1]
      simp only [Option.bind_some]
      rw [P1.1.2.2.1.obj, Option.bind_some, e2]
      simp only [hbW]
      rw [if_neg hz]
    · rw [if_neg hz]
      have : aPl (aPi (aPi (aPl r.2 0 zs) 6 r.1) 7 (r.2.1 2)) 0 [] = aPi (aPi (aPl r.2 0 []) 6 r.1) 7 (r.2.1 2) := by
        show (upd (upd r.2.1 6 r.1) 7 (r.2.1 2), va_up (va_up r.2.2.1 0 zs) 0 [], r.2.2.2) = (upd (upd r.2.1 6 r.1) 7 (r.2.1 2), va_up r.2.2.1 0 [], r.2.2.2)
        rw [va_up_up]
      rw [← this]
      exact P2
theorem cPr_of_Qr {x nx nx' : Nat} {o o' : oT} {h h' : hH} {cp cp' : Nat → Nat} {A : aS} {r : Int32 × aS} (hP : cP x o nx h cp A) (F : Fr cWf o o' h h') (hQ : cQr x o' nx' h' cp' r) (hk : eKeep A r.2) (hc : ∀ j, 9 < j → cp' j = cp j) : cPr x o' nx' h' cp' r := by
  refine ⟨fun hz => hP.of F (hQ.1 hz) hk hc, fun hz => ?_⟩
  obtain ⟨zs, Q⟩ := hQ.2 hz
  refine ⟨zs, hP.of F Q ⟨hk.1, fun j hj => ?_, hk.2.2⟩ hc⟩
  show va_up r.2.2.1 0 zs j = A.2.1 j
  rw [va_up_ne _ _ (by omega)]
  exact hk.2.1 j hj
theorem eFin_ml {c : Int32} {A : aS} {p q : Int32} : eFin (c, aMl A p q) = aMl (eFin (c, A)) p q := by
  have hu : ∀ (f : Nat → Int32) (u v : Int32), upd (upd (upd (upd f 8 p) 9 q) 6 u) 7 v = upd (upd (upd (upd f 6 u) 7 v) 8 p) 9 q := by
    intro f u v
    funext j
    by_cases h6 : j = 6
    · subst h6
      rfl
    · by_cases h7 : j = 7
      · subst h7
        rfl
      · rw [upd_other h7, upd_other h6]
        by_cases h9 : j = 9
        · rw [h9, upd_same, upd_same]
        · rw [upd_other h9, upd_other h9]
          by_cases h8 : j = 8
          · rw [h8, upd_same, upd_same]
          · rw [upd_other h8, upd_other h8, upd_other h7, upd_other h6]
  unfold eFin
  by_cases hc : c = 0
  · rw [if_pos hc, if_pos hc]
    show (upd (upd (upd (upd A.1 8 p) 9 q) 6 0) 7 0, A.2) = (upd (upd (upd (upd A.1 6 0) 7 0) 8 p) 9 q, A.2)
    rw [hu]
  · rw [if_neg hc, if_neg hc]
    show (upd (upd (upd (upd A.1 8 p) 9 q) 6 c) 7 (A.1 2), (aPl A 0 []).2) = (upd (upd (upd (upd A.1 6 c) 7 (A.1 2)) 8 p) 9 q, (aPl A 0 []).2)
    rw [hu]
theorem cQ.ml {x nx : Nat} {o : oT} {h : hH} {cp : Nat → Nat} {A : aS} (p q : Int32) (hQ : cQ x o nx h cp A) : cQ x o nx h cp (aMl A p q) := hQ.fr (W := fun _ => False) (Fr.rf _ _ _) hQ.1 (fun _ _ => by simp) (fun _ _ _ => rfl) (fun j hj => aMl_i (by omega) (by omega)) (fun _ _ => rfl) rfl
theorem c_expand {n x nx : Nat} {b : Int32} {o : oT} {h : hH} {cp : Nat → Nat} {A : aS} {res : Int32 × aS} (hP : cP x o nx h cp A) (hp : pInv A) (hR : pRun b A res) (hn : 100000000 < n) : ∃ (dn ds : Nat) (cp' : Nat → Nat) (o' : oT) (h' : hH) (p q : Int32), f_MacroExpand_expand n x b nx h = some (eAns b res, dn, ds, h') ∧ Fr cWw o o' h h' ∧ cAw cp cp' A res.2 dn ds ∧ cP x o' (nx + dn) h' cp' (aMl (eFin res) p q) := by
  have hc16 : ∃ c, c ≤ 100 ∧ A.1 16 = nI c := by
    obtain ⟨f, g, c, -, -, -, -, -, -, h16, hc, -⟩ := hP.1.2.1
    exact ⟨c, hc, h16⟩
  obtain ⟨ha, hf⟩ := hp.a1 hc16
  obtain ⟨h1, e1, F1, P1⟩ := c_begin hP
  unfold f_MacroExpand_expand
  rw [k0_g3 hP.2.1.1, Option.bind_some, Option.bind_some, k5_o hP.1.2.2.2.1.eo.1, Option.bind_some, e1]
  simp only [hbW]
  unfold pRun at hR
  by_cases hb : b = 0
  · have Q1 : cQ x o nx h1 cp (eBeg1 A) := P1.1.ml 0 (-1)
    rw [if_pos hb] at hR
    rw [if_pos hb, k0_g3 P1.2.1.1, Option.bind_some, Option.bind_some, k5_o P1.1.2.2.2.1.eo.1, Option.bind_some, c_can Q1 hf.1, Option.bind_some, b01_if]
    by_cases hcan : aCan (eBeg1 A) = true
    · rw [if_pos hcan] at hR
      rw [if_pos hcan]
      simp only [Option.bind_some]
      have hne : (eBeg1 A).2.1 0 ≠ [] := by
        obtain ⟨-, t, ts, hx, -⟩ := can_cons hcan
        rw [hx]
        simp
      obtain ⟨dn, ds, cp', o', h', e2, F2, C2, Q2⟩ := c_once (n := n) Q1 ha hne (by omega) (by omega) hR
      obtain ⟨k1, -⟩ := eOnce_inv ha rfl hR
      have Q3 : cQr x o' (nx + dn) h' cp' (res.1, aMl res.2 (A.1 8) (A.1 9)) := by
        refine ⟨fun hz => (Q2.1 hz).ml _ _, fun hz => ?_⟩
        obtain ⟨zs, Q⟩ := Q2.2 hz
        exact ⟨zs, Q.ml (A.1 8) (A.1 9)⟩
      have k3 : eKeep (eBegin A) (aMl res.2 (A.1 8) (A.1 9)) := by
        refine ⟨fun j hj => ?_, fun j hj => k1.2.1 j hj, k1.2.2⟩
        by_cases h9 : j = 9
        · subst h9
          rfl
        · by_cases h8 : j = 8
          · subst h8
            rfl
          · rw [aMl_i h8 h9, k1.1 j hj]
            exact aMl_i h8 h9
      have P2 := cPr_of_Qr P1 F2 Q3 k3 C2.2.2
      obtain ⟨h3, e3, F3, P3⟩ := c_fin (n := n) (b := b) P2
      rw [eFin_ml] at P3
      refine ⟨dn, ds, cp', o', h3, A.1 8, A.1 9, ?_, (F1.tr (F2.mono (fun l q => cWf_w q))).tr F3, cAw.of C2 (k1.2.1 2 (by omega)), P3⟩
      rw [k5_o P1.1.2.2.2.1.eo.1, Option.bind_some, e2]
      simp only [hbind]
      rw [show f_MacroExpand_expand_j42 n x b res.1 (nx + dn) h' = _ from e3]
      simp
      rfl
    · rw [if_neg hcan] at hR
      rw [if_neg hcan]
      subst hR
      obtain ⟨h3, e3, F3, P3⟩ := c_fin (n := n) (b := b) (cPr_of (r := (0, eBegin A)) P1)
      refine ⟨0, 0, cp, o, h3, A.1 8, A.1 9, e3, F1.tr F3, ⟨by show 0 + _ + 40 * (A.2.1 2).length ≤ _ + 40 * (A.2.1 2).length; omega, by show 0 + _ + 3000 * (A.2.1 2).length ≤ _ + 3000 * (A.2.1 2).length; omega⟩, ?_⟩
      have : aMl (eFin (0, eBeg1 A)) (A.1 8) (A.1 9) = eFin (0, eBegin A) := by
        unfold eBeg1
        rw [eFin_ml, aMl_aMl]
        exact aMl_same (eFin (0, eBegin A))
      rw [this]
      exact P3
  · rw [if_neg hb] at hR
    obtain ⟨K, hK, hL⟩ := hR
    rw [if_neg hb, k0_g4 P1.2.1.1, Option.bind_some, Option.bind_some, k11_o P1.2.2.2.1.1, Option.bind_some]
    obtain ⟨dn, ds, cp', o', h', e2, F2, C2, P2⟩ := c_run (n := n) P1 (hp.w hc16) (by omega) hn hL
    obtain ⟨h3, e3, F3, P3⟩ := c_fin (n := n) (b := b) P2
    refine ⟨dn, ds, cp', o', h3, (eFin res).1 8, (eFin res).1 9, ?_, (F1.tr F2).tr F3, C2, by rw [aMl_same]; exact P3⟩
    rw [e2]
    simp only [hbind]
    rw [e3]
    simp
