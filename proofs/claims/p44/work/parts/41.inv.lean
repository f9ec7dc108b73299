/-! what holds of a house between calls: methods, frames, all of it -/
section NUM
/-- so many places, each another number below n -/
theorem inj_le : ∀ (n m : Nat) (g : Nat → Nat), (∀ i, i < m → g i < n) → (∀ i j, i < m → j < m → g i = g j → i = j) → m ≤ n := by
  intro n
  induction n with
  | zero =>
    intro m g h _
    rcases Nat.eq_zero_or_pos m with q | q
    · omega
    · have := h 0 q; omega
  | succ n ih =>
    intro m g h hi
    by_cases c : ∃ i, i < m ∧ g i = n
    · obtain ⟨i, him, hin⟩ := c
      have hm : m = m - 1 + 1 := by omega
      have key := ih (m - 1) (fun j => if j = i then g (m - 1) else g j) (fun j hj => ?_) (fun a b ha hb e => ?_)
      · omega
      · show (if j = i then g (m - 1) else g j) < n
        by_cases q : j = i
        · rw [if_pos q]
          have h1 := h (m - 1) (by omega)
          have h2 : g (m - 1) ≠ n := fun z => by
            have := hi (m - 1) i (by omega) him (by rw [z, hin])
            omega
          omega
        · rw [if_neg q]
          have h1 := h j (by omega)
          have h2 : g j ≠ n := fun z => q (hi j i (by omega) him (by rw [z, hin]))
          omega
      · have e' : (if a = i then g (m - 1) else g a) = (if b = i then g (m - 1) else g b) := e
        by_cases qa : a = i
        · by_cases qb : b = i
          · omega
          · rw [if_pos qa, if_neg qb] at e'
            have := hi (m - 1) b (by omega) (by omega) e'
            omega
        · by_cases qb : b = i
          · rw [if_neg qa, if_pos qb] at e'
            have := hi a (m - 1) (by omega) (by omega) e'
            omega
          · rw [if_neg qa, if_neg qb] at e'
            exact hi a b (by omega) (by omega) e'
    · refine Nat.le_succ_of_le (ih m g (fun i him => ?_) hi)
      have h1 := h i him
      have h2 : g i ≠ n := fun z => c ⟨i, him, z⟩
      omega
end NUM
section MFI
def ltR (R : Ro) (r : Nat) : Int32 := vp_nar .char (R.l r)
def tkI (c0 n0 : Int32) : Int32 := if c0 = 42 ∨ c0 = 43 ∨ c0 = 45 ∨ c0 = 47 ∨ c0 = 60 ∨ c0 = 61 then (2) else (if c0 = 77 ∨ c0 = 109 then (n0 + 1) else (if c0 = 97 ∨ c0 = 99 ∨ c0 = 102 ∨ c0 = 103 ∨ c0 = 106 ∨ c0 = 110 ∨ c0 = 115 ∨ c0 = 116 ∨ c0 = 117 then (0) else (1)))
def ptI (c0 : Int32) : Int32 := if c0 = 70 ∨ c0 = 71 ∨ c0 = 84 ∨ c0 = 106 ∨ c0 = 112 ∨ c0 = 114 ∨ c0 = 119 ∨ c0 = 121 then (0) else (if c0 = 100 then (2) else (1))
def isL (c0 : Int32) : Prop := c0 = 42 ∨ c0 = 43 ∨ c0 = 45 ∨ c0 = 47 ∨ c0 = 60 ∨ c0 = 61 ∨ c0 = 70 ∨ c0 = 71 ∨ c0 = 77 ∨ c0 = 84 ∨ c0 = 97 ∨ c0 = 99 ∨ c0 = 100 ∨ c0 = 102 ∨ c0 = 103 ∨ c0 = 106 ∨ c0 = 107 ∨ c0 = 109 ∨ c0 = 110 ∨ c0 = 112 ∨ c0 = 114 ∨ c0 = 115 ∨ c0 = 116 ∨ c0 = 117 ∨ c0 = 119 ∨ c0 = 121
theorem tkI_e (Z : Ho) (c n : Int32) : sX3_takenBy Z c n = tkI c n := rfl
theorem ptI_e (Z : Ho) (c : Int32) : sX3_putBy Z c = ptI c := rfl
/-- one can go on at the row i with e on the pile -/
def Jmp (R : Ro) (i : Int32) (e : Nat) : Prop := ∃ j, j < 24 ∧ i = nI j ∧ R.d j = nI e ∧ e ≤ 8
/-- what a row names is there -/
def Nam (R : Ro) (a t r : Nat) : Prop := (ltR R r = 97 → ∃ j, j < a ∧ R.f r = nI j) ∧ (ltR R r = 116 ∨ ltR R r = 84 → ∃ j, j < t ∧ R.f r = nI j) ∧ (ltR R r = 77 ∨ ltR R r = 109 → ∃ j, j < 3 ∧ R.g r = nI j)
/-- a row leads on -/
def Led (R : Ro) (r d : Nat) : Prop := ∃ k p, tkI (ltR R r) (R.g r) = nI k ∧ k ≤ d ∧ ptI (ltR R r) = nI p ∧ p ≤ 2 ∧
  (ltR R r = 114 ∨ (ltR R r = 106 ∧ Jmp R (R.f r) (d - k + p)) ∨ (ltR R r = 121 ∧ Jmp R (R.f r) (d - k + p) ∧ Jmp R (nI (r + 1)) (d - k + p)) ∨ (¬ ltR R r = 114 ∧ ¬ ltR R r = 106 ∧ ¬ ltR R r = 121 ∧ Jmp R (nI (r + 1)) (d - k + p)))
/-- a method is well told -/
def Wel (R : Ro) (a t : Nat) : Prop := R.d 0 = 0 ∧ ∀ r d, r < 24 → d ≤ 8 → R.d r = nI d → isL (ltR R r) ∧ Nam R a t r ∧ Led R r d
def MOK (to : Nat → To) (ro : Nat → Ro) (nr ty k : Nat) : Prop := ∃ a t, (to k).a = nI a ∧ a ≤ 2 ∧ (to k).t = nI t ∧ t ≤ 4 ∧ Wel (ro (to k).q) a t ∧ (to k).q ≠ ty ∧ (to k).q < nr
def TyI (R : Ro) : Prop := ∃ n, n ≤ 24 ∧ R.n = nI n ∧ ∀ r, r < n → isL (ltR R r)
/-- what a frame has leads to things that are there -/
def PlV (D : Int32 → Prop) (F : Fr) (a t d : Nat) : Prop := okV D F.v ∧ (∀ k, k < a → okV D (F.a k)) ∧ (∀ k, k < t → okV D (F.t k)) ∧ (∀ k, k < d → okV D (F.p k))
/-- where a frame stands: the last one at a row with its depth, another at a send -/
def Std (R : Ro) (r d : Nat) (top : Prop) : Prop := (top → R.d r = nI d) ∧ (¬ top → (ltR R r = 77 ∨ ltR R r = 109) ∧ ∃ n, n ≤ 2 ∧ R.g r = nI n ∧ d + n + 1 ≤ 8 ∧ R.d r = nI (d + n + 1))
def FOK (D : Int32 → Prop) (to : Nat → To) (ro : Nat → Ro) (nt : Nat) (F : Fr) (top : Prop) : Prop :=
  ∃ k a t r d, F.o = some k ∧ k < nt ∧ (to k).a = nI a ∧ a ≤ 2 ∧ (to k).t = nI t ∧ t ≤ 4 ∧ F.w = nI r ∧ r < 24 ∧ F.d = nI d ∧ d ≤ 8 ∧ PlV D F a t d ∧ Std (ro (to k).q) r d top
def FRS (D : Int32 → Prop) (to : Nat → To) (ro : Nat → Ro) (nt : Nat) (fr : Fin 12 → Fr) (f : Nat) : Prop := ∀ i (hi : i < 12), i < f → FOK D to ro nt (fr ⟨i, hi⟩) (i + 1 = f)
def frN (fr : Fin 12 → Fr) (i : Nat) : Fr := if h : i < 12 then fr ⟨i, h⟩ else fr ⟨0, by decide⟩
def fp (F : Fr) : Nat := F.d.toNatClampNeg + (24 - F.w.toNatClampNeg)
def psum (fr : Fin 12 → Fr) : Nat → Nat
  | 0 => 0
  | i + 1 => psum fr i + fp (frN fr i)
theorem psum_c {fr fr' : Fin 12 → Fr} : ∀ m, m ≤ 12 → (∀ i (hi : i < 12), i < m → fr' ⟨i, hi⟩ = fr ⟨i, hi⟩) → psum fr' m = psum fr m := by
  intro m
  induction m with
  | zero => intro _ _; rfl
  | succ m ih =>
    intro hm h
    show psum fr' m + fp (frN fr' m) = psum fr m + fp (frN fr m)
    rw [ih (by omega) (fun i hi hj => h i hi (by omega))]
    unfold frN
    rw [dif_pos (show m < 12 by omega), dif_pos (show m < 12 by omega), h m (by omega) (Nat.lt_succ_self m)]
theorem psum_t {fr : Fin 12 → Fr} {m : Nat} (h : m < 12) : psum fr (m + 1) = psum fr m + fp (fr ⟨m, h⟩) := by
  show psum fr m + fp (frN fr m) = _
  unfold frN
  rw [dif_pos h]
/-- the last frame set anew -/
theorem psum_u {fr : Fin 12 → Fr} {m : Nat} {F : Fr} (h : m < 12) : psum (updF fr ⟨m, h⟩ F) (m + 1) = psum fr m + fp F := by
  rw [psum_t h, updF_s, psum_c m (by omega) (fun i hi hj => updF_o (fun e => by have := congrArg Fin.val e; simp only at this; omega))]
theorem fp_e {F : Fr} {d r : Nat} (hd : F.d = nI d) (hr : F.w = nI r) (h1 : d ≤ 8) (h2 : r < 24) : fp F = d + (24 - r) := by
  unfold fp
  rw [hd, hr, nI_clamp (by omega), nI_clamp (by omega)]
/-- a house between calls: t things, md made ever, f frames, n writings -/
def Inv (S : Ho) (t md f n : Nat) : Prop :=
  (TB S.al S.th S.tc t md ∧ S.mk = nI md ∧ S.rc = 0 ∧ (∀ k, (S.th k).r = 0) ∧ TF S.al S.th t) ∧
  ((∀ g, g < 8 → okV (Dm S.al S.th t) (S.gl g)) ∧ (S.st = 114 → okV (Dm S.al S.th t) S.an) ∧ (∀ i, i < 12 → ∃ z, z ≤ 8 ∧ S.fc i = nI z)) ∧
  ((∀ j k, S.me j = some k → k < S.nt) ∧ (∀ k, k < S.nt → MOK S.to S.ro S.nr S.ty k) ∧ TyI (S.ro S.ty) ∧ S.ty < S.nr) ∧
  (S.fn = nI f ∧ f ≤ 12 ∧ FRS (Dm S.al S.th t) S.to S.ro S.nt S.fr f) ∧ (S.wc = nI n ∧ S.np = (n + 511) / 512)
variable {S : Ho} {t md f n : Nat} {D E : Int32 → Prop} {to to' : Nat → To} {ro : Nat → Ro} {nt : Nat} {F : Fr} {top : Prop}
theorem Inv.tb (h : Inv S t md f n) : TB S.al S.th S.tc t md := h.1.1
theorem Inv.mk (h : Inv S t md f n) : S.mk = nI md := h.1.2.1
theorem Inv.rc (h : Inv S t md f n) : S.rc = 0 := h.1.2.2.1
theorem Inv.r0 (h : Inv S t md f n) (k : Fin 60) : (S.th k).r = 0 := h.1.2.2.2.1 k
theorem Inv.tf (h : Inv S t md f n) : TF S.al S.th t := h.1.2.2.2.2
theorem Inv.gl (h : Inv S t md f n) : ∀ g, g < 8 → okV (Dm S.al S.th t) (S.gl g) := h.2.1.1
theorem Inv.an (h : Inv S t md f n) : S.st = 114 → okV (Dm S.al S.th t) S.an := h.2.1.2.1
theorem Inv.fc (h : Inv S t md f n) : ∀ i, i < 12 → ∃ z, z ≤ 8 ∧ S.fc i = nI z := h.2.1.2.2
theorem Inv.me (h : Inv S t md f n) {j k : Nat} (q : S.me j = some k) : k < S.nt := h.2.2.1.1 j k q
theorem Inv.mo (h : Inv S t md f n) {k : Nat} (q : k < S.nt) : MOK S.to S.ro S.nr S.ty k := h.2.2.1.2.1 k q
theorem Inv.ty (h : Inv S t md f n) : TyI (S.ro S.ty) := h.2.2.1.2.2.1
theorem Inv.tn (h : Inv S t md f n) : S.ty < S.nr := h.2.2.1.2.2.2
theorem Inv.fn (h : Inv S t md f n) : S.fn = nI f := h.2.2.2.1.1
theorem Inv.f12 (h : Inv S t md f n) : f ≤ 12 := h.2.2.2.1.2.1
theorem Inv.fs (h : Inv S t md f n) : FRS (Dm S.al S.th t) S.to S.ro S.nt S.fr f := h.2.2.2.1.2.2
theorem Inv.wc (h : Inv S t md f n) : S.wc = nI n := h.2.2.2.2.1
theorem Inv.np (h : Inv S t md f n) : S.np = (n + 511) / 512 := h.2.2.2.2.2
theorem PlV.m (hD : ∀ n, D n → E n) {a t d : Nat} (h : PlV D F a t d) : PlV E F a t d := ⟨okV_m hD h.1, fun k q => okV_m hD (h.2.1 k q), fun k q => okV_m hD (h.2.2.1 k q), fun k q => okV_m hD (h.2.2.2 k q)⟩
theorem FOK.g {nt' : Nat} {ro' : Nat → Ro} (hD : ∀ n, D n → E n) (hn : nt ≤ nt') (ht : ∀ k, k < nt → (to' k).a = (to k).a ∧ (to' k).t = (to k).t ∧ ro' (to' k).q = ro (to k).q) (h : FOK D to ro nt F top) : FOK E to' ro' nt' F top := by
  obtain ⟨k, a, t, r, d, h1, h2, h3, h4, h5, h6, h7, h8, h9, h10, h11, h12⟩ := h
  obtain ⟨e1, e2, e3⟩ := ht k h2
  exact ⟨k, a, t, r, d, h1, Nat.lt_of_lt_of_le h2 hn, by rw [e1]; exact h3, h4, by rw [e2]; exact h5, h6, h7, h8, h9, h10, h11.m hD, by rw [e3]; exact h12⟩
theorem FOK.m (hD : ∀ n, D n → E n) (ht : ∀ k, (to' k).a = (to k).a ∧ (to' k).t = (to k).t ∧ (to' k).q = (to k).q) (h : FOK D to ro nt F top) : FOK E to' ro nt F top :=
  h.g hD (Nat.le_refl _) (fun k _ => ⟨(ht k).1, (ht k).2.1, by rw [(ht k).2.2]⟩)
theorem FRS.m {fr : Fin 12 → Fr} (hD : ∀ n, D n → E n) (ht : ∀ k, (to' k).a = (to k).a ∧ (to' k).t = (to k).t ∧ (to' k).q = (to k).q) (h : FRS D to ro nt fr f) : FRS E to' ro nt fr f := fun i hi q => (h i hi q).m hD ht
theorem MOK.m {nr ty k : Nat} (ht : ∀ k, (to' k).a = (to k).a ∧ (to' k).t = (to k).t ∧ (to' k).q = (to k).q) (h : MOK to ro nr ty k) : MOK to' ro nr ty k := by
  obtain ⟨a, t, h1, h2, h3, h4, h5, h6, h7⟩ := h
  exact ⟨a, t, by rw [(ht k).1]; exact h1, h2, by rw [(ht k).2.1]; exact h3, h4, by rw [(ht k).2.2]; exact h5, by rw [(ht k).2.2]; exact h6, by rw [(ht k).2.2]; exact h7⟩
theorem to_c {S : Ho} {k : Nat} {y : Int32} : ∀ j, ((updN S.to k ((S.to k).sn y)) j).a = (S.to j).a ∧ ((updN S.to k ((S.to k).sn y)) j).t = (S.to j).t ∧ ((updN S.to k ((S.to k).sn y)) j).q = (S.to j).q := by
  intro j
  by_cases c : j = k
  · subst c; rw [updN_s]; exact ⟨rfl, rfl, rfl⟩
  · rw [updN_o c]; exact ⟨rfl, rfl, rfl⟩
/-- the last frame set anew, the others as they were -/
theorem FRS.u {fr : Fin 12 → Fr} {m : Nat} (hm : m < 12) (hD : ∀ n, D n → E n) (h : FRS D to ro nt fr (m + 1)) (hF : FOK E to ro nt F True) : FRS E to ro nt (updF fr ⟨m, hm⟩ F) (m + 1) := by
  intro i hi q
  by_cases c : i = m
  · subst c
    rw [updF_s]
    have e : (i + 1 = i + 1) = True := eq_true rfl
    rw [e]; exact hF
  · rw [updF_o (fun e => c (congrArg Fin.val e))]
    exact (h i hi q).m hD (fun _ => ⟨rfl, rfl, rfl⟩)
end MFI
