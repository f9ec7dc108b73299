/-! what a row does to a house: all letters but the sends -/
section ROW
variable {S T S1 : Ho} {t md f n m k a tt r d e b t1 md1 n1 r' d' : Nat} {i : Fin 12} {F F' : Fr} {v : Int64} {D : Int32 → Prop} {R : Ro}
/-- what is left behind a row: as many freed, and the room for writings has not grown but by b -/
def Aft (S S' : Ho) (t md f n b : Nat) : Prop := ∃ t' md' f' n', Inv S' t' md' f' n' ∧ md' + t = md + t' ∧ 2 * n' + psum S'.fr f' ≤ 2 * n + psum S.fr f + b
/-- the last frame -/
def Top (S : Ho) (t : Nat) (F : Fr) (k a tt r d : Nat) : Prop := F.o = some k ∧ k < S.nt ∧ (S.to k).a = nI a ∧ a ≤ 2 ∧ (S.to k).t = nI tt ∧ tt ≤ 4 ∧ F.w = nI r ∧ r < 24 ∧ F.d = nI d ∧ d ≤ 8 ∧ PlV (Dm S.al S.th t) F a tt d ∧ (S.ro (S.to k).q).d r = nI d ∧ Wel (S.ro (S.to k).q) a tt
end ROW
section TOPX
variable {S : Ho} {t k a tt r9 d9 : Nat} {F : Fr}
theorem Top.o (h : Top S t F k a tt r9 d9) : F.o = some k := h.1
theorem Top.w (h : Top S t F k a tt r9 d9) : F.w = nI r9 := h.2.2.2.2.2.2.1
theorem Top.r (h : Top S t F k a tt r9 d9) : r9 < 24 := h.2.2.2.2.2.2.2.1
theorem Top.d (h : Top S t F k a tt r9 d9) : F.d = nI d9 := h.2.2.2.2.2.2.2.2.1
theorem Top.l (h : Top S t F k a tt r9 d9) : d9 ≤ 8 := h.2.2.2.2.2.2.2.2.2.1
theorem Top.p (h : Top S t F k a tt r9 d9) : PlV (Dm S.al S.th t) F a tt d9 := h.2.2.2.2.2.2.2.2.2.2.1
theorem Top.s (h : Top S t F k a tt r9 d9) : (S.ro (S.to k).q).d r9 = nI d9 := h.2.2.2.2.2.2.2.2.2.2.2.1
theorem Top.q (h : Top S t F k a tt r9 d9) : isL (ltR (S.ro (S.to k).q) r9) ∧ Nam (S.ro (S.to k).q) a tt r9 ∧ Led (S.ro (S.to k).q) r9 d9 := h.2.2.2.2.2.2.2.2.2.2.2.2.2 r9 d9 h.r h.l h.s
end TOPX
section ROW
variable {S T S1 : Ho} {t md f n m k a tt r d e b t1 md1 n1 r' d' : Nat} {i : Fin 12} {F F' : Fr} {v : Int64} {D : Int32 → Prop} {R : Ro}
theorem Inv.top (h : Inv S t md (m + 1) n) (hm : m < 12) : ∃ k a tt r d, Top S t (S.fr ⟨m, hm⟩) k a tt r d := by
  obtain ⟨k, a, tt, r, d, h1, h2, h3, h4, h5, h6, h7, h8, h9, h10, h11, h12⟩ := h.fs m hm (Nat.lt_succ_self m)
  obtain ⟨a', t', g1, g2, g3, g4, g5, g6, g7⟩ := h.mo h2
  have ea : a = a' := nI_inj (by omega) (by omega) (h3.symm.trans g1)
  have et : tt = t' := nI_inj (by omega) (by omega) (h5.symm.trans g3)
  subst ea et
  exact ⟨k, a, tt, r, d, h1, h2, h3, h4, h5, h6, h7, h8, h9, h10, h11, h12.1 rfl, g5⟩
theorem Top.fok (h : Top S t F k a tt r d) {r' d' : Nat} {E : Int32 → Prop} {nt : Nat} (hn : S.nt ≤ nt) (o : F'.o = some k) (w : F'.w = nI r') (hr : r' < 24) (hd : F'.d = nI d') (h8 : d' ≤ 8) (pl : PlV E F' a tt d') (std : (S.ro (S.to k).q).d r' = nI d') : FOK E S.to S.ro nt F' True :=
  ⟨k, a, tt, r', d', o, Nat.lt_of_lt_of_le h.2.1 hn, h.2.2.1, h.2.2.2.1, h.2.2.2.2.1, h.2.2.2.2.2.1, w, hr, hd, h8, pl, fun _ => std, fun q => absurd trivial q⟩
theorem aft_id (h : Inv S1 t md f n) (hf : S1.fr = S.fr) : Aft S S1 t md f n b := ⟨t, md, f, n, h, rfl, by rw [hf]; omega⟩
/-- a row that ends in a change of the last frame -/
theorem aft_fr (hm : m < 12) (T0 : Top S t (S.fr ⟨m, hm⟩) k a tt r d) (h1 : Inv S1 t1 md1 (m + 1) n1) (hfr : S1.fr = S.fr) (hto : S1.to = S.to) (hro : S1.ro = S.ro) (hnt : S1.nt = S.nt) (hnum : md1 + t = md + t1)
    (o : F'.o = some k) (w : F'.w = nI r') (hr : r' < 24) (hd : F'.d = nI d') (h8 : d' ≤ 8) (pl : PlV (Dm S1.al S1.th t1) F' a tt d') (std : (S.ro (S.to k).q).d r' = nI d')
    (hp : 2 * n1 + (d' + (24 - r')) ≤ 2 * n + (d + (24 - r)) + b) : Aft S (S1.frS ⟨m, hm⟩ F') t md (m + 1) n b := by
  refine ⟨t1, md1, m + 1, n1, h1.frU hm ?_, hnum, ?_⟩
  · rw [hto, hro, hnt]
    exact T0.fok (Nat.le_refl _) o w hr hd h8 pl std
  · show 2 * n1 + psum (updF S1.fr ⟨m, hm⟩ F') (m + 1) ≤ _
    rw [psum_u hm, hfr, psum_t hm, fp_e hd w h8 hr, fp_e T0.d T0.w T0.l T0.r]
    omega
theorem rk_e {c : Int32} (hF : S.fr i = F) (hd : F.d = nI (e + 2)) (h8 : e + 2 ≤ 8) (hw : F.w = nI r) :
    (∃ x, sX8_reckon S i c = sX8_fault S x) ∨ ∃ y, sX8_reckon S i c = S.frS i (((F.sp (vp_updL F.p e (bN y))).sd (nI (e + 1))).sw (nI (r + 1))) := by
  have p1 : ∀ T9 : Ho, T9.fr i = F → sX1_pop T9 i = (F.p (e + 1), T9.frS i (F.sd (nI (e + 1)))) := fun T9 q => pop_e (d := e + 2) q hd (by omega) h8
  have p2 : ∀ T9 : Ho, T9.fr i = F.sd (nI (e + 1)) → sX1_pop T9 i = (F.p e, T9.frS i (F.sd (nI e))) := fun T9 q => pop_e (F := F.sd (nI (e + 1))) (d := e + 1) q rfl (by omega) (by omega)
  have p3 : ∀ (T9 : Ho) (v9 : Int64), T9.fr i = F.sd (nI e) → sX1_push T9 i v9 = T9.frS i ((F.sp (vp_updL F.p e v9)).sd (nI (e + 1))) := fun T9 v9 q => push_e (F := F.sd (nI e)) (d := e) q rfl (by omega)
  have fin : ∀ y : Int32, (pc (sX1_pop S i) (fun _ T6 => pc (sX1_pop T6 i) (fun _ T11 => vc (sX1_push T11 i (bN y)) (fun T15 => (T15.frS i ((T15.fr i).sw (((T15.fr i).w) + 1))))))) = S.frS i (((F.sp (vp_updL F.p e (bN y))).sd (nI (e + 1))).sw (nI (r + 1))) := by
    intro y
    rw [pc_e (p1 S hF), pc_e (p2 _ frS_s), vc_e (p3 _ _ frS_s), frS_s, frS_2, frS_2, frS_2]
    show S.frS i (((F.sp (vp_updL F.p e (bN y))).sd (nI (e + 1))).sw (F.w + 1)) = _
    rw [hw, nI_1]
  unfold sX8_reckon
  by_cases c1 : isN (sX1_fromTop S i 1) = 0
  · rw [if_pos c1]; exact Or.inl ⟨_, rfl⟩
  rw [if_neg c1]
  by_cases c2 : isN (sX1_fromTop S i 0) = 0
  · rw [if_pos c2]; exact Or.inl ⟨_, rfl⟩
  rw [if_neg c2]
  by_cases c3 : c = 47
  · rw [if_pos c3]
    by_cases c4 : nf (sX1_fromTop S i 0) = 0
    · rw [if_pos c4]; exact Or.inl ⟨_, rfl⟩
    · rw [if_neg c4]; exact Or.inr ⟨_, fin _⟩
  · rw [if_neg c3]; exact Or.inr ⟨_, fin _⟩
/-- a row 'f' -/
theorem pf_e {j : Int32} (h : Inv S t md f n) (hF : S.fr i = F) (hd : F.d = nI d) (h8 : d < 8) (hw : F.w = nI r) :
    (∃ x, sX8_putField S i j = sX8_fault S x) ∨ ∃ y, okV (Dm S.al S.th t) y ∧ sX8_putField S i j = S.frS i (((F.sp (vp_updL F.p d y)).sd (nI (d + 1))).sw (nI (r + 1))) := by
  unfold sX8_putField
  rcases ov_e (v := (S.fr i).v) h.tb with ⟨j1, hj1, _, _, q⟩ | ⟨q, _⟩
  · rw [oc_s q]
    by_cases c : sX4_hasField S (pT S.al j1) j = 0
    · rw [if_pos c]; exact Or.inl ⟨_, rfl⟩
    · rw [if_neg c]
      refine Or.inr ⟨pA (S.th (pT S.al j1)).p 8 j, ?_, ?_⟩
      · unfold sX4_hasField at c
        rw [isB_b] at c
        obtain ⟨z, hz, ez⟩ := h.tb.z hj1
        rw [ez] at c
        obtain ⟨j2, hj2, e2⟩ := isB_ex (by omega) c
        rw [e2]
        have e3 : pA (S.th (pT S.al j1)).p 8 (nI j2) = (S.th (pT S.al j1)).p j2 := pA_1 (n := 8) (by omega) (by decide)
        rw [e3]
        exact h.tf j1 hj1 z j2 ez hz hj2
      · rw [vc_e (push_e hF hd h8), frS_s, frS_2]
        show S.frS i (((F.sp _).sd (nI (d + 1))).sw (F.w + 1)) = _
        rw [hw, nI_1]
  · rw [oc_n q]; exact Or.inl ⟨_, rfl⟩
/-- a row 'F' -/
theorem tf_e {j : Int32} (h : Inv S t md f n) (hF : S.fr i = F) (hd : F.d = nI (e + 1)) (h8 : e + 1 ≤ 8) (hw : F.w = nI r) :
    (∃ x, sX8_takeIntoField S i j = sX8_fault S x) ∨ ∃ q : Fin 60, sX8_takeIntoField S i j = (S.thS q ((S.th q).sp (pU (S.th q).p 8 j (F.p e)))).frS i ((F.sd (nI e)).sw (nI (r + 1))) := by
  unfold sX8_takeIntoField
  rcases ov_e (v := (S.fr i).v) h.tb with ⟨j1, hj1, _, _, q⟩ | ⟨q, _⟩
  · rw [oc_s q]
    by_cases c : sX4_hasField S (pT S.al j1) j = 0
    · rw [if_pos c]; exact Or.inl ⟨_, rfl⟩
    · rw [if_neg c]
      refine Or.inr ⟨pT S.al j1, ?_⟩
      rw [pc_e (pop_e (d := e + 1) hF hd (by omega) h8), frS_s]
      show ((S.frS i (F.sd (nI e))).thS (pT S.al j1) _).frS i ((F.sd (nI e)).sw (F.w + 1)) = _
      rw [thfr, hw, nI_1]
      rfl
  · rw [oc_n q]; exact Or.inl ⟨_, rfl⟩
theorem fc_e (h : Inv S t md f n) (c : Int32) : ∃ z, z ≤ 8 ∧ aA S.fc 0 c = nI z := by
  unfold aA
  by_cases q : isB c 12 = 0
  · rw [if_pos q]; exact ⟨0, by omega, rfl⟩
  · rw [if_neg q]
    obtain ⟨j, hj, e⟩ := isB_ex (n := 12) (by decide) q
    rw [e, nI_clamp (by omega)]
    exact h.fc j hj
/-- a row 'c' -/
theorem mt_e {c : Int32} (h : Inv S t md f n) (hF : S.fr i = F) (hd : F.d = nI d) (h8 : d < 8) (hw : F.w = nI r) :
    (∃ x, sX8_makeThing S i c = sX8_fault S x) ∨ (t < 60 ∧ ∃ z, z ≤ 8 ∧ sX8_makeThing S i c = (enS S t c (nI z)).frS i (((F.sp (vp_updL F.p d (sX8_ofThing S S.mk))).sd (nI (d + 1))).sw (nI (r + 1)))) := by
  unfold sX8_makeThing
  by_cases c1 : sX5_isFull S = 0
  · rw [if_pos c1]
    have ht : t < 60 := by
      unfold sX5_isFull at c1
      rw [h.tb.t] at c1
      rcases Nat.lt_or_ge t 60 with q | q
      · exact q
      · rw [if_neg (show ¬ nI t < 60 from nI_nlt (a := t) (b := 60) q (by have := h.tb.l; omega))] at c1
        exact absurd c1 (by decide)
    obtain ⟨z, hz, ez⟩ := fc_e h c
    refine Or.inr ⟨ht, z, hz, ?_⟩
    rw [ez, pc_e (en_e h.tb ht), vc_e (push_e (T := enS S t c (nI z)) (F := F) hF hd h8), frS_s, frS_2]
    show (enS S t c (nI z)).frS i (((F.sp _).sd (nI (d + 1))).sw (F.w + 1)) = _
    rw [hw, nI_1]
    rfl
  · rw [if_neg c1]; exact Or.inl ⟨_, rfl⟩
theorem okV_mk {c z : Int32} (h : TB S.al S.th S.tc t md) : okV (Dm (enS S t c z).al (enS S t c z).th (t + 1)) (sX8_ofThing S S.mk) := Or.inr (by rw [nf_o]; exact en_N)
theorem enl_fr {F1 : Fr} : sX7_enlist (S.frS i F1) v = (sX7_enlist S v).frS i F1 := by
  by_cases c : S.np ≤ (S.wc / 512).toNatClampNeg
  · exact (if_pos c).trans (congrArg (fun z9 : Ho => z9.frS i F1) (if_pos c : sX7_enlist S v = _)).symm
  · exact (if_neg c).trans (congrArg (fun z9 : Ho => z9.frS i F1) (if_neg c : sX7_enlist S v = _)).symm
theorem enl_f : (sX7_enlist S v).fr = S.fr ∧ (sX7_enlist S v).to = S.to ∧ (sX7_enlist S v).ro = S.ro ∧ (sX7_enlist S v).nt = S.nt := by
  unfold sX7_enlist
  by_cases c : S.np ≤ (S.wc / 512).toNatClampNeg
  · rw [if_pos c]; exact ⟨rfl, rfl, rfl, rfl⟩
  · rw [if_neg c]; exact ⟨rfl, rfl, rfl, rfl⟩
theorem Inv.enl (h : Inv S t md f n) (hn : n < 2 ^ 30) : Inv (sX7_enlist S v) t md f (n + 1) := by
  have e1 : (S.wc / 512).toNatClampNeg = n / 512 := by
    rw [h.wc, show nI n / 512 = nI (n / 512) from pk_div (d := 512) (by omega) (by omega) (by decide), nI_clamp (by omega)]
  unfold sX7_enlist
  rw [e1, h.np]
  by_cases c : (n + 511) / 512 ≤ n / 512
  · rw [if_pos c]
    exact ⟨h.1, h.2.1, h.2.2.1, h.2.2.2.1, by show S.wc + 1 = nI (n + 1); rw [h.wc, nI_1], by show (n + 511) / 512 + 1 = (n + 1 + 511) / 512; omega⟩
  · rw [if_neg c]
    exact ⟨h.1, h.2.1, h.2.2.1, h.2.2.2.1, by show S.wc + 1 = nI (n + 1); rw [h.wc, nI_1], by show S.np = (n + 1 + 511) / 512; rw [h.np]; omega⟩
end ROW
