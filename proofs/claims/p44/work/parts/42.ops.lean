/-! what a row does to a house: pile, simple rows -/
section OPE
theorem nar_2 (x : Int32) : vp_nar .char (vp_nar .char x) = vp_nar .char x := by
  show ((x.toUInt32 % 65536).toInt32.toUInt32 % 65536).toInt32 = (x.toUInt32 % 65536).toInt32
  rw [pk_char (x.toUInt32 % 65536).toInt32, pk_char x, pk_tn (by omega), Nat.mod_mod]
variable {S T : Ho} {t md f n m k a r d e : Nat} {i : Fin 12} {F : Fr} {v : Int64} {D : Int32 → Prop} {R : Ro}
def bN (n : Int32) : Int64 := 472446402560 ||| (n.toInt64 &&& 4294967295)
theorem okV_b {D : Int32 → Prop} {n : Int32} : okV D (bN n) := Or.inl (by unfold isT bN; rw [(bb_n n).1]; decide)
theorem lt_e (ho : (S.fr i).o = some k) (hw : (S.fr i).w = nI r) (hr : r < 24) : sX1_letter S i = ltR (S.ro (S.to k).q) r := by
  unfold sX1_letter sX3_letterAt
  rw [oc_s ho, hw, if_neg (isB_1L (b := 24) (n := 24) rfl hr (by decide)), nI_clamp (by omega)]
  exact nar_2 _
theorem fi_e (ho : (S.fr i).o = some k) (hw : (S.fr i).w = nI r) (hr : r < 24) : sX1_first S i = (S.ro (S.to k).q).f r := by
  unfold sX1_first sX3_firstAt
  rw [oc_s ho, hw, if_neg (isB_1L (b := 24) (n := 24) rfl hr (by decide)), nI_clamp (by omega)]
theorem se_e (ho : (S.fr i).o = some k) (hw : (S.fr i).w = nI r) (hr : r < 24) : sX1_second S i = (S.ro (S.to k).q).g r := by
  unfold sX1_second sX3_secondAt
  rw [oc_s ho, hw, if_neg (isB_1L (b := 24) (n := 24) rfl hr (by decide)), nI_clamp (by omega)]
theorem pop_e (hF : T.fr i = F) (hd : F.d = nI d) (h0 : 1 ≤ d) (h8 : d ≤ 8) : sX1_pop T i = (F.p (d - 1), T.frS i (F.sd (nI (d - 1)))) := by
  subst hF
  have e1 : nI d - 1 = nI (d - 1) := pk_sub (b := 1) h0
  have e2 : pA ((T.fr i).p) 8 (nI (d - 1)) = (T.fr i).p (d - 1) := pA_1 (n := 8) (by omega) (by decide)
  unfold sX1_pop
  rw [hd, if_pos (show (1 : Int32) ≤ nI d from nI_le (a := 1) h0 (by omega)), e1, e2]
theorem push_e (hF : T.fr i = F) (hd : F.d = nI d) (h8 : d < 8) : sX1_push T i v = T.frS i ((F.sp (vp_updL F.p d v)).sd (nI (d + 1))) := by
  subst hF
  unfold sX1_push
  rw [hd, if_neg (isB_1L (b := 8) (n := 8) rfl h8 (by decide)), nI_clamp (by omega), nI_1]
theorem ft_e {j : Nat} {x : Int32} (hx : x = nI j) (hF : T.fr i = F) (hd : F.d = nI d) (hj : j < d) (h8 : d ≤ 8) : sX1_fromTop T i x = F.p (d - 1 - j) := by
  subst hF hx
  have e1 : nI d - 1 = nI (d - 1) := pk_sub (b := 1) (by omega)
  have e2 : pA ((T.fr i).p) 8 (nI (d - 1 - j)) = (T.fr i).p (d - 1 - j) := pA_1 (n := 8) (by omega) (by decide)
  unfold sX1_fromTop
  rw [hd, e1, pk_sub (by omega), e2]
theorem top_i (h : Inv S t md f n) (q : sX8_frameAt S (S.fn - 1) = some i) : ∃ (m : Nat) (hm : m < 12), f = m + 1 ∧ i = ⟨m, hm⟩ := by
  rw [h.fn] at q
  have h12 := h.f12
  cases f with
  | zero => rw [frameAt_h (by decide)] at q; cases q
  | succ m =>
    rw [nI_pred, frameAt_1 (show m < 12 by omega)] at q
    exact ⟨m, by omega, rfl, (Option.some.inj q).symm⟩
theorem Led.go {c : Int32} {k0 p0 : Nat} (h : Led R r d) (hc : ltR R r = c) (h1 : ¬ c = 114) (h2 : ¬ c = 106) (h3 : ¬ c = 121) (hk : tkI c (R.g r) = nI k0) (hp : ptI c = nI p0) (hk0 : k0 < 100) (hp0 : p0 < 100) (hr : r < 24) (hd : d ≤ 8) : k0 ≤ d ∧ r + 1 < 24 ∧ R.d (r + 1) = nI (d - k0 + p0) ∧ d - k0 + p0 ≤ 8 := by
  obtain ⟨k, p, e1, hkd, e2, hp2, q⟩ := h
  rw [hc] at e1 e2 q
  have ek : k0 = k := nI_inj (by omega) (by omega) (hk.symm.trans e1)
  have ep : p0 = p := nI_inj (by omega) (by omega) (hp.symm.trans e2)
  subst ek ep
  rcases q with q | ⟨q, _⟩ | ⟨q, _⟩ | ⟨_, _, _, j, hj, ej, hdj, h8⟩
  · exact absurd q h1
  · exact absurd q h2
  · exact absurd q h3
  · have : r + 1 = j := nI_inj (by omega) (by omega) ej
    subst this
    exact ⟨hkd, hj, hdj, h8⟩
theorem Dm_e {al : Nat → Option (Fin 60)} {th th' : Fin 60 → Th} {t : Nat} (h : ∀ k, (th' k).n = (th k).n) : Dm al th' t = Dm al th t := by
  funext n
  unfold Dm nT
  exact propext ⟨fun ⟨j, hj, e⟩ => ⟨j, hj, by rw [← h]; exact e⟩, fun ⟨j, hj, e⟩ => ⟨j, hj, by rw [h]; exact e⟩⟩
theorem TB_e {al : Nat → Option (Fin 60)} {th th' : Fin 60 → Th} {tc : Int32} (h : ∀ k, (th' k).n = (th k).n) (hz : ∀ k, (th' k).z = (th k).z) (q : TB al th tc t md) : TB al th' tc t md := by
  have e : ∀ j, nT al th' j = nT al th j := fun j => h _
  refine ⟨q.1, q.2.1, q.2.2.1, fun i j a b => by rw [e, e]; exact q.s a b, fun j b => by rw [e]; exact q.b b, fun j b => by rw [hz]; exact q.z b⟩
/-- a frame's last change -/
theorem Inv.frU (hm : m < 12) (h : Inv S t md (m + 1) n) (hF : FOK (Dm S.al S.th t) S.to S.ro S.nt F True) : Inv (S.frS ⟨m, hm⟩ F) t md (m + 1) n :=
  ⟨h.1, h.2.1, h.2.2.1, ⟨h.fn, h.f12, h.fs.u hm (fun _ q => q) hF⟩, h.2.2.2.2⟩
theorem Inv.fault {c : Int32} (h : Inv S t md f n) : Inv (sX8_fault S c) t md f n :=
  ⟨h.1, ⟨h.gl, fun q => absurd (show (120 : Int32) = 114 from q) (by decide), h.fc⟩, h.2.2.1, h.2.2.2.1, h.2.2.2.2⟩
/-- a field set -/
theorem Inv.thU {q : Fin 60} {j : Int32} (h : Inv S t md f n) (hv : okV (Dm S.al S.th t) v) : Inv (S.thS q ((S.th q).sp (pU (S.th q).p 8 j v))) t md f n := by
  have hu : ∀ k, ((updF S.th q ((S.th q).sp (pU (S.th q).p 8 j v))) k).n = (S.th k).n ∧ ((updF S.th q ((S.th q).sp (pU (S.th q).p 8 j v))) k).z = (S.th k).z ∧ ((updF S.th q ((S.th q).sp (pU (S.th q).p 8 j v))) k).r = (S.th k).r := by
    intro k
    by_cases c : k = q
    · subst c; rw [updF_s]; exact ⟨rfl, rfl, rfl⟩
    · rw [updF_o c]; exact ⟨rfl, rfl, rfl⟩
  have eD : Dm S.al (updF S.th q ((S.th q).sp (pU (S.th q).p 8 j v))) t = Dm S.al S.th t := Dm_e (fun k => (hu k).1)
  refine ⟨⟨TB_e (fun k => (hu k).1) (fun k => (hu k).2.1) h.tb, h.mk, h.rc, fun k => ((hu k).2.2).trans (h.r0 k), ?_⟩, ⟨?_, ?_, h.fc⟩, h.2.2.1, ⟨h.fn, h.f12, ?_⟩, h.2.2.2.2⟩
  · intro j1 hj z k ez hz hk
    show okV (Dm S.al (updF S.th q _) t) _
    rw [eD]
    have ez2 : (S.th (pT S.al j1)).z = nI z := ((hu _).2.1).symm.trans ez
    show okV _ (((updF S.th q ((S.th q).sp (pU (S.th q).p 8 j v))) (pT S.al j1)).p k)
    by_cases c : pT S.al j1 = q
    · rw [c, updF_s]
      show okV _ (pU (S.th q).p 8 j v k)
      rw [← c]
      exact pU_lt (n := z) hv (fun k hk => h.tf j1 hj z k ez2 hz hk) k hk
    · rw [updF_o c]
      exact h.tf j1 hj z k ez2 hz hk
  · show ∀ g, g < 8 → okV (Dm S.al (updF S.th q _) t) (S.gl g)
    rw [eD]; exact h.gl
  · show S.st = 114 → okV (Dm S.al (updF S.th q _) t) S.an
    rw [eD]; exact h.an
  · show FRS (Dm S.al (updF S.th q _) t) S.to S.ro S.nt S.fr f
    rw [eD]; exact h.fs
/-- a global set -/
theorem Inv.glU {j : Int32} (h : Inv S t md f n) (hv : okV (Dm S.al S.th t) v) : Inv (S.sgl (pU S.gl 8 j v)) t md f n :=
  ⟨h.1, ⟨pU_lt (n := 8) hv h.gl, h.an, h.fc⟩, h.2.2.1, h.2.2.2.1, h.2.2.2.2⟩
/-- a thing more -/
theorem Inv.enU {c : Int32} {z : Nat} (h : Inv S t md f n) (ht : t < 60) (hmd : md < 2 ^ 30) (hz : z ≤ 8) : Inv (enS S t c (nI z)) (t + 1) (md + 1) f n := by
  have hD := en_D (c := c) (z := nI z) h.tb ht
  refine ⟨⟨en_TB h.tb ht h.mk hmd hz, ?_, h.rc, fun k => ?_, en_TF h.tb ht h.tf⟩, ⟨fun g hg => okV_m hD (h.gl g hg), fun q => okV_m hD (h.an q), h.fc⟩, h.2.2.1, ⟨h.fn, h.f12, h.fs.m hD (fun _ => ⟨rfl, rfl, rfl⟩)⟩, h.2.2.2.2⟩
  · show S.mk + 1 = nI (md + 1)
    rw [h.mk, nI_1]
  · show ((updF S.th (pT S.al t) (enV S t c (nI z))) k).r = 0
    by_cases q : k = pT S.al t
    · subst q; rw [updF_s]; rfl
    · rw [updF_o q]; exact h.r0 k
theorem frfr {j : Fin 12} {F1 F2 : Fr} : (S.frS j F1).frS j F2 = S.frS j F2 := frS_2
theorem thfr {q : Fin 60} {V : Th} {F1 F2 : Fr} : ((S.frS i F1).thS q V).frS i F2 = (S.thS q V).frS i F2 :=
  congrArg (fun z9 => (S.thS q V).sfr z9) updF_2
theorem glfr {g : Nat → Int64} {F1 F2 : Fr} : ((S.frS i F1).sgl g).frS i F2 = (S.sgl g).frS i F2 :=
  congrArg (fun z9 => (S.sgl g).sfr z9) updF_2
/-- what stays of a frame's places -/
theorem PlV.pop {a t : Nat} (h : PlV D F a t d) {w : Int32} (he : e ≤ d) : PlV D ((F.sd (nI e)).sw w) a t e := ⟨h.1, h.2.1, h.2.2.1, fun k q => h.2.2.2 k (by omega)⟩
theorem PlV.row {a t : Nat} (h : PlV D F a t d) {w : Int32} : PlV D (F.sw w) a t d := h
theorem PlV.put {a t : Nat} (h : PlV D F a t d) (hv : okV D v) (he : e ≤ d) {w x : Int32} : PlV D (((F.sp (vp_updL F.p e v)).sd x).sw w) a t (e + 1) := ⟨h.1, h.2.1, h.2.2.1, fun k q => by
  show okV D (vp_updL F.p e v k)
  unfold vp_updL
  by_cases c : k = e
  · rw [if_pos c]; exact hv
  · rw [if_neg c]; exact h.2.2.2 k (by omega)⟩
end OPE
