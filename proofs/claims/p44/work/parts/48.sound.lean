/-! a house is sound -/
section SND
variable {S : Ho} {t md f n a tt d k : Nat} {v : Int64} {D : Int32 → Prop} {i : Fin 12}
/-- a frame's places in one row -/
theorem pls_e (ho : (S.fr i).o = some k) (ha : (S.to k).a = nI a) (ht : (S.to k).t = nI tt) (hd : (S.fr i).d = nI d) : sX1_places S i = nI (1 + a + tt + d) := by
  unfold sX1_places sX1_placesOf
  rw [if_pos rfl, if_neg (by decide), if_pos rfl, oc_s ho, oc_s ho, ha, ht, hd, show (1 : Int32) = nI 1 from rfl, nI_add, nI_add, nI_add]
theorem po_e (ho : (S.fr i).o = some k) (ha : (S.to k).a = nI a) : sX1_placesOf S i 97 = nI a := by
  unfold sX1_placesOf
  rw [if_pos rfl, oc_s ho, ha]
theorem pt_e (ho : (S.fr i).o = some k) (ht : (S.to k).t = nI tt) : sX1_placesOf S i 116 = nI tt := by
  unfold sX1_placesOf
  rw [if_neg (by decide), if_pos rfl, oc_s ho, ht]
theorem pd_e : sX1_placesOf S i 112 = (S.fr i).d := by
  unfold sX1_placesOf
  rw [if_neg (by decide), if_neg (by decide)]
theorem pl_v : sX1_place S i (nI 0) = (S.fr i).v := if_pos rfl
theorem pl_a {j : Nat} (ho : (S.fr i).o = some k) (ha : (S.to k).a = nI a) (h2 : a ≤ 2) (hj : j < a) : sX1_place S i (nI (1 + j)) = (S.fr i).a j := by
  have e1 : nI (1 + j) - 1 = nI j := by rw [Nat.add_comm]; exact nI_pred j
  have e2 : ¬ (0 : Int32) ≤ nI j - nI a := by
    rw [Int32.le_iff_toInt_le, pk_sub_toInt (by omega) (by omega)]
    have e0 : (0 : Int32).toInt = 0 := by decide
    omega
  have e3 : pA ((S.fr i).a) 2 (nI j) = (S.fr i).a j := pA_1 (n := 2) (by omega) (by decide)
  unfold sX1_place
  rw [if_neg (nI_ne0 (by omega) (by omega)), e1, po_e ho ha, if_neg e2]
  unfold sX1_placeOf
  rw [if_pos rfl, e3]
theorem pl_t {j : Nat} (ho : (S.fr i).o = some k) (ha : (S.to k).a = nI a) (h2 : a ≤ 2) (ht : (S.to k).t = nI tt) (h4 : tt ≤ 4) (hj : j < tt) : sX1_place S i (nI (1 + a + j)) = (S.fr i).t j := by
  have e1 : nI (1 + a + j) - 1 = nI (a + j) := by rw [show 1 + a + j = (a + j) + 1 by omega]; exact nI_pred _
  have e2 : nI (a + j) - nI a = nI j := by rw [pk_sub (by omega), Nat.add_sub_cancel_left]
  have e3 : pA ((S.fr i).t) 4 (nI j) = (S.fr i).t j := pA_1 (n := 4) (by omega) (by decide)
  unfold sX1_place
  rw [if_neg (nI_ne0 (by omega) (by omega)), e1, po_e ho ha, e2, if_pos (show (0 : Int32) ≤ nI j from nI_pos' (by omega)), pt_e ho ht, if_neg (nI_ge hj (by omega))]
  unfold sX1_placeOf
  rw [if_neg (by decide), if_pos rfl, e3]
theorem pl_p {j : Nat} (ho : (S.fr i).o = some k) (ha : (S.to k).a = nI a) (h2 : a ≤ 2) (ht : (S.to k).t = nI tt) (h4 : tt ≤ 4) (hj : j < d) (h8 : d ≤ 8) : sX1_place S i (nI (1 + a + tt + j)) = (S.fr i).p j := by
  have e1 : nI (1 + a + tt + j) - 1 = nI (a + (tt + j)) := by rw [show 1 + a + tt + j = (a + (tt + j)) + 1 by omega]; exact nI_pred _
  have e2 : nI (a + (tt + j)) - nI a = nI (tt + j) := by rw [pk_sub (by omega), Nat.add_sub_cancel_left]
  have e4 : nI (tt + j) - nI tt = nI j := by rw [pk_sub (by omega), Nat.add_sub_cancel_left]
  have e3 : pA ((S.fr i).p) 8 (nI j) = (S.fr i).p j := pA_1 (n := 8) (by omega) (by decide)
  unfold sX1_place
  rw [if_neg (nI_ne0 (by omega) (by omega)), e1, po_e ho ha, e2, if_pos (show (0 : Int32) ≤ nI (tt + j) from nI_pos' (by omega)), pt_e ho ht, if_pos (nI_le (by omega) (by omega)), e4]
  unfold sX1_placeOf
  rw [if_neg (by decide), if_neg (by decide), e3]
theorem pl_ok {top : Prop} (h : FOK D S.to S.ro S.nt (S.fr i) top) : ∃ N, N ≤ 15 ∧ sX1_places S i = nI N ∧ ∀ j, j < N → okV D (sX1_place S i (nI j)) := by
  obtain ⟨k, a, tt, r, d, h1, h2, h3, h4, h5, h6, h7, h8, h9, h10, ⟨p1, p2, p3, p4⟩, h12⟩ := h
  refine ⟨1 + a + tt + d, by omega, pls_e h1 h3 h5 h9, fun j hj => ?_⟩
  rcases Nat.eq_zero_or_pos j with c | c
  · subst c; rw [pl_v]; exact p1
  rcases Nat.lt_or_ge j (1 + a) with c1 | c1
  · rw [show j = 1 + (j - 1) by omega, pl_a h1 h3 h4 (by omega)]; exact p2 _ (by omega)
  rcases Nat.lt_or_ge j (1 + a + tt) with c2 | c2
  · rw [show j = 1 + a + (j - 1 - a) by omega, pl_t h1 h3 h4 h5 h6 (by omega)]; exact p3 _ (by omega)
  · rw [show j = 1 + a + tt + (j - 1 - a - tt) by omega, pl_p (d := d) h1 h3 h4 h5 h6 (by omega) h10]; exact p4 _ (by omega)
theorem so_g (h : Inv S t md f n) : sX8_hasGlobalsThere S = 1 := by
  have key : ∀ (fu x : Nat), x ≤ 8 → 9 ≤ x + fu → LX8_hasGlobalsThere_10 fu (nI x) S = 1 := by
    intro fu
    induction fu with
    | zero => intro x h1 h2; omega
    | succ fu ih =>
      intro x h1 h2
      rw [LX8_hasGlobalsThere_10_u]
      by_cases c : (8 : Int32) ≤ nI x
      · exact if_pos c
      · have hx : x < 8 := by
          rcases Nat.lt_or_ge x 8 with z | z
          · exact z
          · exact absurd (nI_le (a := 8) z (by omega)) c
        rw [if_neg c, nI_clamp (by omega), if_neg (has_1 h.tb (h.gl x hx)), nI_1]
        exact ih (x + 1) (by omega) (by omega)
  exact key 9 0 (by omega) (by omega)
theorem so_p {j z : Nat} (h : Inv S t md f n) (hj : j < t) (ez : (S.th (pT S.al j)).z = nI z) (hz : z ≤ 8) : sX5_hasPlacesThere S (pT S.al j) = 1 := by
  have key : ∀ (fu x : Nat), x ≤ z → z + 1 ≤ x + fu → LX5_hasPlacesThere_2 (pT S.al j) fu (nI x) S = 1 := by
    intro fu
    induction fu with
    | zero => intro x h1 h2; omega
    | succ fu ih =>
      intro x h1 h2
      rw [LX5_hasPlacesThere_2_u, ez]
      by_cases c : nI z ≤ nI x
      · exact if_pos c
      · have hx : x < z := by
          rcases Nat.lt_or_ge x z with y | y
          · exact y
          · exact absurd (nI_le y (by omega)) c
        have e3 : pA (S.th (pT S.al j)).p 8 (nI x) = (S.th (pT S.al j)).p x := pA_1 (n := 8) (by omega) (by decide)
        rw [if_neg c, e3, if_neg (has_1 h.tb (h.tf j hj z x ez hz hx)), nI_1]
        exact ih (x + 1) (by omega) (by omega)
  exact key FU 0 (by omega) (by rw [FU_e]; omega)
theorem io_e {j : Nat} (h : TB S.al S.th S.tc t md) (hj : j < t) : sX5_inOrder S (nI j) = some (pT S.al j) := by
  have ht := h.l
  unfold sX5_inOrder
  rw [h.t, if_neg (isB_1n hj (by omega)), if_neg (isB_1L (b := 60) (n := 60) rfl (by omega) (by decide)), nI_clamp (by omega), h.a (by omega)]
theorem so_f (h : Inv S t md f n) : sX5_hasFieldsThere S = 1 := by
  have ht := h.tb.l
  have key : ∀ (fu x : Nat), x ≤ t → t + 1 ≤ x + fu → LX5_hasFieldsThere_2 fu (nI x) S = 1 := by
    intro fu
    induction fu with
    | zero => intro x h1 h2; omega
    | succ fu ih =>
      intro x h1 h2
      rw [LX5_hasFieldsThere_2_u]
      by_cases c : S.tc ≤ nI x
      · exact if_pos c
      · rw [if_neg c]
        rw [h.tb.t] at c
        have hx : x < t := by
          rcases Nat.lt_or_ge x t with y | y
          · exact y
          · exact absurd (nI_le y (by omega)) c
        obtain ⟨z, hz, ez⟩ := h.tb.z hx
        rw [oc_s (io_e h.tb hx), so_p h hx ez hz, if_neg (by decide), nI_1]
        exact ih (x + 1) (by omega) (by omega)
  exact key FU 0 (by omega) (by rw [FU_e]; omega)
theorem so_q {N : Nat} (h : TB S.al S.th S.tc t md) (hN : N ≤ 15) (eN : sX1_places S i = nI N) (hv : ∀ j, j < N → okV (Dm S.al S.th t) (sX1_place S i (nI j))) : sX8_hasPlacesThere S i = 1 := by
  have key : ∀ (fu x : Nat), x ≤ N → N + 1 ≤ x + fu → LX8_hasPlacesThere_2 i fu (nI x) S = 1 := by
    intro fu
    induction fu with
    | zero => intro x h1 h2; omega
    | succ fu ih =>
      intro x h1 h2
      rw [LX8_hasPlacesThere_2_u, eN]
      by_cases c : nI N ≤ nI x
      · exact if_pos c
      · have hx : x < N := by
          rcases Nat.lt_or_ge x N with y | y
          · exact y
          · exact absurd (nI_le y (by omega)) c
        rw [if_neg c, if_neg (has_1 h (hv x hx)), nI_1]
        exact ih (x + 1) (by omega) (by omega)
  exact key FU 0 (by omega) (by rw [FU_e]; omega)
theorem so_r (h : Inv S t md f n) : sX8_hasFramesThere S = 1 := by
  have hf := h.f12
  have key : ∀ (fu x : Nat), x ≤ f → f + 1 ≤ x + fu → LX8_hasFramesThere_2 fu (nI x) S = 1 := by
    intro fu
    induction fu with
    | zero => intro x h1 h2; omega
    | succ fu ih =>
      intro x h1 h2
      rw [LX8_hasFramesThere_2_u, h.fn]
      by_cases c : nI f ≤ nI x
      · exact if_pos c
      · have hx : x < f := by
          rcases Nat.lt_or_ge x f with y | y
          · exact y
          · exact absurd (nI_le y (by omega)) c
        obtain ⟨N, hN, eN, hv⟩ := pl_ok (h.fs x (by omega) hx)
        rw [if_neg c, oc_s (frameAt_1 (show x < 12 by omega)), so_q h.tb hN eN hv, if_neg (by decide), nI_1]
        exact ih (x + 1) (by omega) (by omega)
  exact key FU 0 (by omega) (by rw [FU_e]; omega)
theorem so_d (h : Inv S t md f n) : sX8_hasDepthAsTold S = 1 := by
  unfold sX8_hasDepthAsTold
  cases f with
  | zero => exact if_pos h.fn
  | succ m =>
    have hm : m < 12 := h.f12
    obtain ⟨k, a, tt, r, d, T⟩ := h.top hm
    rw [h.fn, if_neg (nI_ne0 (by omega) (by omega)), nI_pred, oc_s (frameAt_1 hm)]
    refine if_pos ?_
    have hr := T.r
    unfold sX1_depthAsTold sX3_depthAt
    rw [oc_s T.o, T.w, if_neg (isB_1L (b := 24) (n := 24) rfl hr (by decide)), nI_clamp (by omega), T.s, T.d]
theorem sound_1 (h : Inv S t md f n) : sX8_isSound S = 1 := by
  have ht := h.tb.l
  unfold sX8_isSound
  rw [h.tb.t, if_neg (show ¬ (60 : Int32) < nI t from nI_nlt (a := 60) ht (by decide)), if_pos (show S.fn ≤ 12 by rw [h.fn]; exact nI_le (b := 12) h.f12 (by decide)), so_g h, so_f h, so_r h, so_d h]
  by_cases c : S.st = 114
  · rw [if_pos c, if_neg (has_1 h.tb (h.an c))]; rfl
  · rw [if_neg c]; rfl
end SND
