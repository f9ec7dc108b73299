/-! lists of texts, texts that are joined -/
section LST
variable {p : Program} {l : Launch} {e : Env} {R : Room} {s : State} {m : MethodId} {args : Array Value} {below : List Frame} {meth : Method} {c : Code} {H : Heap} {locs : List Loc} {cells slots : Nat} {Q : State → Prop}
variable {cc : ByteArray} {pc : Nat} {ls : Array Slot} {rest st0 : List Value} {D : va_G} {A : Nat → Prop} {a b nz : Nat} {G G1 : gW} {ar : Nat → ClassId} {κ : Nat → Nat} {v : Nat} {bs : List Int32}
theorem met_wi {ws : List Cond} {rm : Room} {y : MethodName} {cl : List vw_C} {tys : List (ClassId × FieldType)} {EX : (Nat → Prop) → State → Heap → Prop} {G : gW} {sz : Nat} {av : List Value} {A : Nat → Prop} {mc ms : Nat} {fr : Addr → Prop} {post post2 : Int32 → gW × Nat → Prop}
    (hM : Met l y ws rm (g_Pc D cl tys EX G sz av) (g_Qi D cl A post) mc ms fr) (h : (∀ q, sz ≤ q → G q = none) → ∀ r u, post r u → post2 r u) : Met l y ws rm (g_Pc D cl tys EX G sz av) (g_Qi D cl A post2) mc ms fr :=
  Jvm.Free.MetFree.mono hM (fun _ _ h9 => h9) (fun _ _ _ _ _ h9 => h9) (fun a s o t hP q => by
    obtain ⟨⟨⟨r, u, h1, h2, h3⟩, h4⟩, h5⟩ := q
    refine ⟨⟨⟨r, u, h1, h (fun q9 hq => ?_) r u h2, h3⟩, h4⟩, h5⟩
    cases hG : G q9 with
    | none => rfl
    | some e9 =>
      have h6 := g_lt hP.2.2.1 hG
      have h7 : s.heap.size = sz := hP.2.1
      omega)
/-- a list of texts at o, beside a world that stays -/
def LsT (ar : Nat → ClassId) (κ : Nat → Nat) (G0 G : gW) (o : Nat) (L : List (List Int32)) : Prop :=
  gLe G0 G ∧ G0 o = none ∧ ((L = [] ∧ ∃ mc : Int32, G o = some (.inr (5, [.int mc, .ref (κ 0), .int 0]))) ∨
    ∃ (mc : Int32) (ed c9 : Nat) (f9 : Nat → Option Nat), G0 ed = none ∧ G o = some (.inr (5, [.int mc, .ref ed, .int (nI L.length)])) ∧ G ed = some (.inl (ar 8, c9, .inr (.inr (.inr (.inr f9))))) ∧ 1 ≤ L.length ∧ L.length ≤ c9 ∧ (c9 = 10 ∨ c9 = 15) ∧ ∀ j, j < L.length → ∃ y yv, f9 j = some y ∧ TX ar κ G y yv (L.getD j []))
theorem LsT.le {G0 G2 : gW} {o : Nat} {L : List (List Int32)} (h : LsT ar κ G0 G o L) (g : gLe G G2) : LsT ar κ G0 G2 o L := by
  obtain ⟨h1, h2, h3⟩ := h
  refine ⟨h1.t g, h2, ?_⟩
  rcases h3 with ⟨rfl, mc, ho⟩ | ⟨mc, ed, c9, f9, q1, q2, q3, q4, q5, q6, q7⟩
  · exact Or.inl ⟨rfl, mc, g _ _ ho⟩
  · exact Or.inr ⟨mc, ed, c9, f9, q1, g _ _ q2, g _ _ q3, q4, q5, q6, fun j hj => by
      obtain ⟨y, yv, z1, z2⟩ := q7 j hj
      exact ⟨y, yv, z1, z2.le g⟩⟩
theorem LsT.o {G0 : gW} {o : Nat} {L : List (List Int32)} (h : LsT ar κ G0 G o L) : ∃ (mc : Int32) (ed : Nat) (n : Int32), G o = some (.inr (5, [.int mc, .ref ed, .int n])) := by
  obtain ⟨-, -, ⟨-, mc, ho⟩ | ⟨mc, ed, c9, f9, -, ho, -⟩⟩ := h
  · exact ⟨mc, _, _, ho⟩
  · exact ⟨mc, ed, _, ho⟩
theorem tx_x0 {fs : List Value} {o : Nat} (h : TX ar κ G a v bs) (ho : G o = some (.inr (5, fs))) : ∀ G9, gLx G o o G9 → TX ar κ G9 a v bs := by
  intro G9 hg
  rcases h with ⟨⟨h1, z1, h⟩, h2⟩ | h
  · exact Or.inl ⟨⟨h1, z1, hg _ _ (g_nx h ho (by simp)) (g_nx h ho (by simp)) h⟩, hg _ _ (g_nx h2 ho (by simp)) (g_nx h2 ho (by simp)) h2⟩
  · exact Or.inr h
theorem tx_x {fs : List Value} {o ed c9 : Nat} {f9 : Nat → Option Nat} (h : TX ar κ G a v bs) (ho : G o = some (.inr (5, fs))) (hed : G ed = some (.inl (ar 8, c9, .inr (.inr (.inr (.inr f9)))))) : ∀ G9, gLx G o ed G9 → TX ar κ G9 a v bs := by
  intro G9 hg
  rcases h with ⟨⟨h1, z1, h⟩, h2⟩ | h
  · exact Or.inl ⟨⟨h1, z1, hg _ _ (g_nx h ho (by simp)) (g_nx h hed (by simp)) h⟩, hg _ _ (g_nx h2 ho (by simp)) (g_nx h2 hed (by simp)) h2⟩
  · exact Or.inr h
theorem gLe.z {a : Nat} (h : gLe G G1) (h0 : G1 a = none) : G a = none := by
  cases hq : G a with
  | none => rfl
  | some e9 => rw [h a e9 hq] at h0; cases h0
theorem getD_l {α : Type} {L L2 : List α} {d : α} {j : Nat} (h : j < L.length) : (L ++ L2).getD j d = L.getD j d := by
  rw [List.getD_eq_getElem?_getD, List.getD_eq_getElem?_getD, List.getElem?_append_left h]
theorem getD_r {α : Type} {L L2 : List α} {d : α} {j : Nat} : (L ++ L2).getD (L.length + j) d = L2.getD j d := by
  rw [List.getD_eq_getElem?_getD, List.getD_eq_getElem?_getD, List.getElem?_append_right (by omega), Nat.add_sub_cancel_left]
theorem getD_mem {α : Type} {L : List α} {d : α} {j : Nat} (h : j < L.length) : L.getD j d ∈ L := by
  rw [List.getD_eq_getElem?_getD, List.getElem?_eq_getElem h]
  exact List.getElem_mem h
/-- a text more in a list -/
theorem j_add (l : Launch) (D : va_G) (ar : Nat → ClassId) (κ : Nat → Nat) (G : gW) (sz : Nat) (o t vt : Nat) (bs : List Int32) (G0 : gW) (L : List (List Int32)) (hL : LsT ar κ G0 G o L) (ht : TX ar κ G t vt bs) (hn : L.length < 15) :
    Met l yJx4a65c_add_9ea2d (lwC yJx4a65c_add_9ea2d cJx4a65c_add_9ea2d 2 (some .boolean)) (rD 6 1 15) (g_Pc D vwCl (gT ar) (EX1 κ) G sz [.ref o, .ref t]) (g_Qi D vwCl (g_A G sz) (fun r u => r = 1 ∧ LsT ar κ G0 u.1 o (L ++ [bs]))) 1 15 (g_A G sz) := by
  have hlen : (L ++ [bs]).length = L.length + 1 := by rw [List.length_append]; rfl
  obtain ⟨hg, h0, ⟨rfl, mc, ho⟩ | ⟨mc, ed, c9, f9, he0, ho, hed, h1, h2, h3, h4⟩⟩ := hL
  · refine met_wi (j_add0 l D ar κ G sz o t vt bs mc ho (tx_x0 ht ho)) (fun hfr r u hq => ?_)
    obtain ⟨rfl, rfl⟩ := hq
    have hs0 : G sz = none := hfr sz (Nat.le_refl _)
    have hso : sz ≠ o := fun q => by rw [q, ho] at hs0; cases hs0
    refine ⟨rfl, (hg.up (hg.z hs0)).up h0, h0, Or.inr ⟨mc + 1, sz, 10, va_up (fun _ => none) 0 (some t), hg.z hs0, g_up_s, g_up_o hso g_up_s, Nat.le_refl _, by show 1 ≤ 10; omega, Or.inl rfl, fun j hj => ?_⟩⟩
    obtain rfl : j = 0 := by
      have : j < 1 := hj
      omega
    exact ⟨t, vt, va_up_self _ _ _, tx_x0 ht ho _ ((gLx.r.up hs0).o)⟩
  · rcases Nat.lt_or_ge L.length c9 with hc | hc
    · refine met_wi (j_addA l D ar κ G sz o t vt bs mc ed L.length c9 f9 ho hed (tx_x ht ho hed) hc (by omega)) (fun hfr r u hq => ?_)
      obtain ⟨rfl, rfl⟩ := hq
      have hoe : ed ≠ o := g_nx hed ho (by simp)
      refine ⟨rfl, (hg.up he0).up h0, h0, Or.inr ⟨mc + 1, ed, c9, va_up f9 L.length (some t), he0, by rw [hlen]; exact g_up_s, g_up_o hoe g_up_s, by rw [hlen]; omega, by rw [hlen]; omega, h3, fun j hj => ?_⟩⟩
      rw [hlen] at hj
      have hX : gLx G o ed (g_up (g_up G ed (.inl (ar 8, c9, .inr (.inr (.inr (.inr (va_up f9 L.length (some t)))))))) o (.inr (5, [.int (mc + 1), .ref ed, .int (nI (L.length + 1))]))) := (gLx.r.e).o
      by_cases hj9 : j = L.length
      · subst hj9
        refine ⟨t, vt, va_up_self _ _ _, ?_⟩
        rw [show (L ++ [bs]).getD L.length [] = bs from (getD_r (L := L) (j := 0))]
        exact tx_x ht ho hed _ hX
      · obtain ⟨y, yv, z1, z2⟩ := h4 j (by omega)
        refine ⟨y, yv, (va_up_ne _ _ hj9).trans z1, ?_⟩
        rw [getD_l (by omega)]
        exact tx_x z2 ho hed _ hX
    · have hc10 : c9 = 10 := by omega
      have hL10 : L.length = 10 := by omega
      subst hc10
      rw [hL10] at ho h4 hlen
      refine met_wi (j_addG l D ar κ G sz o t vt bs mc ed f9 ho hed (tx_x ht ho hed) (fun j y hj hy => ?_)) (fun hfr r u hq => ?_)
      · obtain ⟨y2, yv, z1, z2⟩ := h4 j hj
        obtain rfl : y2 = y := Option.some.inj (z1.symm.trans hy)
        exact ⟨yv, _, tx_x z2 ho hed⟩
      · obtain ⟨rfl, rfl⟩ := hq
        have hs0 : G sz = none := hfr sz (Nat.le_refl _)
        have hso : sz ≠ o := fun q => by rw [q, ho] at hs0; cases hs0
        refine ⟨rfl, (hg.up (hg.z hs0)).up h0, h0, Or.inr ⟨mc + 1, sz, 15, va_up (va_cpy f9 (fun _ => none) 0 0 10) 10 (some t), hg.z hs0, by rw [hlen]; exact g_up_s, g_up_o hso g_up_s, by rw [hlen]; omega, by rw [hlen]; omega, Or.inr rfl, fun j hj => ?_⟩⟩
        rw [hlen] at hj
        have hX : gLx G o ed (g_up (g_up G sz (.inl (ar 8, 15, .inr (.inr (.inr (.inr (va_up (va_cpy f9 (fun _ => none) 0 0 10) 10 (some t)))))))) o (.inr (5, [.int (mc + 1), .ref sz, .int 11]))) := (gLx.r.up hs0).o
        by_cases hj9 : j = 10
        · subst hj9
          refine ⟨t, vt, va_up_self _ _ _, ?_⟩
          rw [show (L ++ [bs]).getD 10 [] = bs by rw [← hL10]; exact (getD_r (L := L) (j := 0))]
          exact tx_x ht ho hed _ hX
        · obtain ⟨y, yv, z1, z2⟩ := h4 j (by omega)
          refine ⟨y, yv, (va_up_ne _ _ hj9).trans ((pk_cpy_in (Nat.zero_le _) (by omega)).trans (by rw [Nat.sub_zero, Nat.zero_add]; exact z1)), ?_⟩
          rw [getD_l (by omega)]
          exact tx_x z2 ho hed _ hX
/-- a text is cast to a text -/
theorem tx_cast {own : String} {index nL : Nat} (S : CallFix p m c cc nL s args lwA own) (hE : g_E D vwCl (gT ar) (EX1 κ) A s s.heap) (w : g_S D vwCl A s.heap G H locs nz) (h : TX ar κ G a v bs) (hlink : Cond.classLink own index "java/lang/String" ∈ lwA) (hdg : decode cc pc = .ok (.checkcast index, 3))
    (k : W p l e R s m args below meth c H locs cells slots Q (F0 m (pc + 3) ls (.ref a :: rest))) : W p l e R s m args below meth c H locs cells slots Q (F0 m pc ls (.ref a :: rest)) :=
  va_castS S.1 S.2.1 S.2.2.2.1 (S.2.2.2.2 _ hlink) (hE.1.1 0 (RJ0, TJ0, 4) rfl).2 (tx_recv hE w h) hdg k
/-- texts with a blank between -/
def jn : List (List Int32) → List Int32
  | [] => []
  | [t] => t
  | t :: u :: r => t ++ 32 :: jn (u :: r)
/-- what stands between two blanks -/
def tkO (t : List Int32) : Prop := 0 < t.length ∧ ∀ b ∈ t, ¬ b = 32
theorem ixF_hit {c : Int32} {bs : List Int32} : ∀ (j i k : Nat), (∀ q, i ≤ q → q < i + j → ¬ bs.getD q 0 = c) → bs.getD (i + j) 0 = c → j < k → ixF c bs i k = nI (i + j) := by
  intro j
  induction j with
  | zero =>
    intro i k _ h2 h3
    obtain ⟨k, rfl⟩ : ∃ k', k = k' + 1 := ⟨k - 1, by omega⟩
    exact ixF_y h2
  | succ j ih =>
    intro i k h1 h2 h3
    obtain ⟨k, rfl⟩ : ∃ k', k = k' + 1 := ⟨k - 1, by omega⟩
    rw [ixF_n (h1 i (Nat.le_refl _) (by omega)), ih (i + 1) k (fun q q1 q2 => h1 q (by omega) (by omega)) (by rw [show i + 1 + j = i + (j + 1) by omega]; exact h2) (by omega)]
    rw [show i + 1 + j = i + (j + 1) by omega]
theorem ixF_miss {c : Int32} {bs : List Int32} : ∀ (k i : Nat), (∀ q, i ≤ q → q < i + k → ¬ bs.getD q 0 = c) → ixF c bs i k = -1 := by
  intro k
  induction k with
  | zero => intro i _; rfl
  | succ k ih =>
    intro i h
    rw [ixF_n (h i (Nat.le_refl _) (by omega))]
    exact ih (i + 1) (fun q q1 q2 => h q (by omega) (by omega))
theorem seg_at {pre t x : List Int32} {q : Nat} (h1 : pre.length ≤ q) (h2 : q < pre.length + t.length) : (pre ++ (t ++ x)).getD q 0 ∈ t := by
  obtain ⟨j, rfl⟩ : ∃ j, q = pre.length + j := ⟨q - pre.length, by omega⟩
  rw [getD_r, getD_l (by omega)]
  exact getD_mem (by omega)
theorem slc_seg {pre t x : List Int32} : slc (pre ++ (t ++ x)) pre.length (pre.length + t.length) = t := by
  unfold slc
  rw [Nat.add_sub_cancel_left, List.drop_left, List.take_left]
theorem jn_2 {t u : List Int32} {r : List (List Int32)} : jn (t :: u :: r) = t ++ 32 :: jn (u :: r) := rfl
theorem sp_hit {pre t u : List Int32} {r : List (List Int32)} {bs : List Int32} (hb : bs = pre ++ jn (t :: u :: r)) (ht : tkO t) : ixF 32 bs pre.length (bs.length - pre.length) = nI (pre.length + t.length) := by
  subst hb
  rw [jn_2]
  refine ixF_hit t.length pre.length _ (fun q h1 h2 => ht.2 _ (seg_at h1 h2)) ?_ ?_
  · rw [getD_r]; exact (getD_r (L := t) (j := 0))
  · rw [List.length_append, List.length_append, List.length_cons]; omega
theorem sp_miss {pre t : List Int32} {bs : List Int32} (hb : bs = pre ++ jn [t]) (ht : tkO t) : ixF 32 bs pre.length (bs.length - pre.length) = -1 := by
  subst hb
  show ixF 32 (pre ++ t) pre.length ((pre ++ t).length - pre.length) = -1
  refine ixF_miss _ pre.length (fun q h1 h2 => ht.2 _ ?_)
  have h3 : (pre ++ t).length = pre.length + t.length := List.length_append
  have h := seg_at (x := []) (t := t) (pre := pre) (q := q) h1 (by omega)
  rw [List.append_nil] at h
  exact h
theorem sp_cut {pre t u : List Int32} {r : List (List Int32)} {bs : List Int32} (hb : bs = pre ++ jn (t :: u :: r)) : slc bs pre.length (pre.length + t.length) = t := by
  subst hb; rw [jn_2]; exact slc_seg
theorem sp_cutE {pre t : List Int32} {bs : List Int32} (hb : bs = pre ++ jn [t]) : slc bs pre.length bs.length = t := by
  subst hb
  have h := slc_seg (pre := pre) (t := t) (x := [])
  rw [List.append_nil] at h
  rw [show (pre ++ jn [t]).length = pre.length + t.length from List.length_append]
  exact h
theorem sp_len {pre t u : List Int32} {r : List (List Int32)} {bs : List Int32} (hb : bs = pre ++ jn (t :: u :: r)) : pre.length + t.length + 1 ≤ bs.length := by
  subst hb
  rw [jn_2, List.length_append, List.length_append, List.length_cons]; omega
theorem sp_lenE {pre t : List Int32} {bs : List Int32} (hb : bs = pre ++ jn [t]) : pre.length + t.length = bs.length := by
  subst hb; exact List.length_append.symm
theorem sp_on {pre t u : List Int32} {r : List (List Int32)} {bs : List Int32} (hb : bs = pre ++ jn (t :: u :: r)) : bs = (pre ++ t ++ [32]) ++ jn (u :: r) := by
  rw [hb, jn_2]; simp
theorem sp_onL {pre t : List Int32} : (pre ++ t ++ [32]).length = pre.length + t.length + 1 := by
  rw [List.length_append, List.length_append]; rfl
theorem jn_le : ∀ (L : List (List Int32)) (t : List Int32), t ∈ L → t.length ≤ (jn L).length
  | [], t, h => by cases h
  | [u], t, h => by rw [List.mem_singleton.mp h]; exact Nat.le_refl _
  | u :: w :: r, t, h => by
    rw [jn_2, List.length_append, List.length_cons]
    rcases List.mem_cons.mp h with h | h
    · rw [h]; omega
    · have := jn_le (w :: r) t h
      omega
end LST
