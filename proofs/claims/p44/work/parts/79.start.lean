section SITES
variable {p : Program} {l : Launch} {e : Env} {R : Room} {s : State} {m : MethodId} {args : Array Value} {below : List Frame} {meth : Method} {c : Code} {H : Heap} {locs : List Loc} {cells slots : Nat} {Q : State → Prop}
variable {pc : Nat} {ls : Array Slot} {rest : List Value} {D : va_G} {ar : Nat → ClassId} {κ : Nat → Nat} {A : Nat → Prop} {a : Nat} {H0 : Heap} {G : gW} {nz nL : Nat} {cc : ByteArray}
theorem m_1_40 : (Cond.classLink RL 12 RX8) ∈ lwA := lwA_mk (ck_1 _ (List.mem_of_getElem? (i := 40) rfl)) rfl
theorem m_1_41 : (Cond.instantiable RX8 13) ∈ lwA := lwA_mk (ck_1 _ (List.mem_of_getElem? (i := 41) rfl)) rfl
theorem nw_RL_12 {A9 : Nat → Prop} {H9 : Heap} (S : CallFix p m c cc nL s args lwA RL) (hE : g_E D vwCl (gT ar) (EX1 κ) A9 s H9) (w : g_S D vwCl A H0 G H locs nz) (hcells : cells + 1 ≤ R.cells) (hslots : slots + 13 ≤ R.slots) (hdg : decode cc pc = .ok (.new 12, 3)) (kk : ∀ (H1 : Heap), g_S D vwCl A H0 (g_up G nz (.inr (14, [.null, .null, .null, .int 0, .null, .null, .null, .int 0, .int 0, .int 0, .long 0, .int 0, .null]))) H1 locs (nz + 1) → W p l e R s m args below meth c H1 locs (cells + 1) (slots + 13) Q (F0 m (pc + 3) ls (.ref nz :: rest))) : W p l e R s m args below meth c H locs cells slots Q (F0 m pc ls rest) :=
  g_new (ci := 14) (fs := [.null, .null, .null, .int 0, .null, .null, .null, .int 0, .int 0, .int 0, .long 0, .int 0, .null]) (C := RX8) (T := TX8) (N := 13) S.1 S.2.1 S.2.2.2.2 inA_RX8 tyX8 tyX8_ok S.2.2.2.1 (S.2.2.2.2 _ m_1_40) (S.2.2.2.2 _ m_1_41) (S.2.2.2.2 _ m_1_1) hE.1 w rfl (fun j hj => by rcases (show j = 0 ∨ j = 1 ∨ j = 2 ∨ j = 3 ∨ j = 4 ∨ j = 5 ∨ j = 6 ∨ j = 7 ∨ j = 8 ∨ j = 9 ∨ j = 10 ∨ j = 11 ∨ j = 12 by omega) with rfl | rfl | rfl | rfl | rfl | rfl | rfl | rfl | rfl | rfl | rfl | rfl | rfl <;> rfl) hcells hslots hdg kk
theorem m_1_44 : (Cond.code yX8_init cX8_init 2 none) ∈ lwA := lwA_mk (ck_1 _ (List.mem_of_getElem? (i := 44) rfl)) rfl
theorem m_1_42 : (Cond.methodLink RL 299 yX8_init) ∈ lwA := lwA_mk (ck_1 _ (List.mem_of_getElem? (i := 42) rfl)) rfl
theorem m_1_43 : (Cond.instanceMethod yX8_init) ∈ lwA := lwA_mk (ck_1 _ (List.mem_of_getElem? (i := 43) rfl)) rfl
theorem k_RL_299 {args : Array Value} {s : State} {R rm : Room} (hts : ∀ w ∈ lwA, w.before args s = true) (hR : rm.frames + 1 ≤ R.frames ∧ 8 + (2 + 11) + rm.locals ≤ R.locals) : CallB R s args RL 299 yX8_init cX8_init 2 none (lwC yX8_init cX8_init 2 none) rm rm.cells rm.slots 0 ∧ yX8_init.name = "<init>" ∧ (Cond.instanceMethod yX8_init).before args s = true := cwI 0 hts (gd m_1_44) rfl rfl rfl (hts _ m_1_1) (hts _ m_1_42) (hts _ m_1_43) rfl (by decide +kernel) hR
theorem m_7_79 : (Cond.code yL_classes3 cL_classes3 1 none) ∈ lwA := lwA_mk (ck_7 _ (List.mem_of_getElem? (i := 79) rfl)) rfl
theorem m_7_77 : (Cond.methodLink RL 300 yL_classes3) ∈ lwA := lwA_mk (ck_7 _ (List.mem_of_getElem? (i := 77) rfl)) rfl
theorem m_7_78 : (Cond.static yL_classes3) ∈ lwA := lwA_mk (ck_7 _ (List.mem_of_getElem? (i := 78) rfl)) rfl
theorem k_RL_300 {args : Array Value} {s : State} {R rm : Room} (hts : ∀ w ∈ lwA, w.before args s = true) (hR : rm.frames + 1 ≤ R.frames ∧ 8 + (1 + 11) + rm.locals ≤ R.locals) : CallB R s args RL 300 yL_classes3 cL_classes3 1 none (lwC yL_classes3 cL_classes3 1 none) rm rm.cells rm.slots 1 ∧ (Cond.static yL_classes3).before args s = true := cwS 1 hts (gdS m_7_77 m_7_78 m_1_0 m_7_79) rfl rfl rfl (by decide +kernel) hR
end SITES
theorem dj_0 {x1 x2 : Xo} {n1 : Nat} (h1 : ∀ q t, x1.b q = some t → q < n1) (h2 : ∀ q t, x2.b q = some t → n1 ≤ q) : DJ x1 x2 := fun q => by
  cases hb1 : x1.b q with
  | none => exact Or.inl rfl
  | some t =>
    cases hb2 : x2.b q with
    | none => exact Or.inr rfl
    | some t2 =>
      have a := h1 q t hb1
      have b := h2 q t2 hb2
      omega
set_option maxHeartbeats 8000000 in
set_option maxRecDepth 100000 in
theorem whole_start {p : Program} {e : Env} {s : State} {m : MethodId} {below : List Frame} {meth : Method} {c : Code} (l : Launch) (hflags : l.flags = flags0) {b L : Nat} {xs : Nat → Int32} (hL : L ≤ 260) (C0 : lw_At p s m meth c b L xs) : W p l e room_1 s m #[Value.ref b] below meth c s.heap [] 0 0 (lw_Z below #[Value.ref b] s) (entryFrame m ([Value.ref b] : List Value).toArray 10) := by
  obtain ⟨hx, hb, hr, hml, hown, hts, hX, hbl, hlk, hgv⟩ := id C0
  have hlt : l.stackTraces = false := by unfold Launch.stackTraces; rw [hflags]; decide +kernel
  obtain ⟨D, ar, hK⟩ := K_0 hts
  obtain ⟨κ, hEX⟩ := EX1_0 hts hgv
  have hE : g_E D vwCl (gT ar) (EX1 κ) (fun q => s.heap.size ≤ q) s s.heap := ⟨hK, hEX⟩
  have hT0 : va_T .int b L (fun j => .int (xs j)) (fun q => s.heap.size ≤ q) s s.heap := by
    obtain ⟨scr, h1, h2, h3, h4, h5⟩ := hX
    exact ⟨scr, h1, h2, h3, by rw [h4]; exact Nat.le_refl _, by rw [h4], h5, Nat.not_le.mpr hbl⟩
  have hEs : g_E D vwCl (gT ar) (EXs κ b L xs) (fun q => s.heap.size ≤ q) s s.heap := ⟨hK, hEX, hT0⟩
  have S : CallFix p m c cL_law 10 s #[.ref b] lwA RL := ⟨hx, hb, hml, hown, fun w h => hts w (lwA_in w h)⟩
  have w : g_S D vwCl (fun q => s.heap.size ≤ q) s.heap (fun _ => none) s.heap [] s.heap.size := ⟨fun a e h => (by cases h), fun a e h => (by cases h), va_S.rf, fun q h => h, rfl⟩
  have hl := lv_entry ([.ref b]) (n := 10) (Nat.le_of_ble_eq_true rfl)
  rw [lg_entry_eq]
  generalize (lg_sl ([.ref b]) ++ List.replicate (10 - (lg_sl ([.ref b])).length) Slot.unset).toArray = ls at hl ⊢
  have hl : lv_has ls 10 [(0, .ref b)] := hl
  refine nw_RL_12 S hE w (Nat.le_of_ble_eq_true rfl) (Nat.le_of_ble_eq_true rfl) dL_law_0 (fun H w => ?_)
  refine lv_dup hx hb dL_law_3 rfl ?_
  refine g_callv w (g_runI (As := []) (rest := [.ref s.heap.size]) S hE w hl (c_X8_init l D ar κ (g_up (fun _ => none) s.heap.size (.inr (14, [.null, .null, .null, .int 0, .null, .null, .null, .int 0, .int 0, .int 0, .long 0, .int 0, .null]))) (s.heap.size + 1) (s.heap.size) g_up_s) (k_RL_299 S.2.2.2.2 ⟨Nat.le_of_ble_eq_true rfl, Nat.le_of_ble_eq_true rfl⟩) rfl rfl (Nat.le_of_ble_eq_true rfl) dL_law_4 ⟨Nat.le_of_ble_eq_true rfl, Nat.le_of_ble_eq_true rfl⟩) (fun u H locs hp hnz w => ?_)
  have hu1 : u.1 = Wi κ ar (fun _ => none) (s.heap.size) (s.heap.size + 1) := by rw [hp]; rfl
  have hv1 : u.2 = s.heap.size + 1 + 185 := by rw [hp]
  clear hp
  obtain ⟨g1, n1⟩ := u
  dsimp only at hu1 hv1 w hnz
  subst hu1
  have w := g_sub w (init_sub (h := s.heap.size) (q := s.heap.size + 1) (by omega) rfl (fun _ _ => rfl))
  obtain ⟨x1, hx1⟩ : ∃ x1, x1 = x0 s.heap.size (s.heap.size + 1) := ⟨_, rfl⟩
  rw [← hx1] at w
  have hk1 : OK x1 S0 := by rw [hx1]; exact OK_0 (by omega)
  have hf1 : x1.f .ho = s.heap.size := by rw [hx1]; rfl
  have hm1 : ∀ q t, x1.b q = some t → q < n1 := fun q t z => g_ltn w (ov_s z)
  refine lv_astore_n (lv' := [(1, .ref s.heap.size), (0, .ref b)]) hx hb dL_law_7 rfl hl (by decide) rfl (fun ls hl => ?_)
  have hz1 := g_none w
  have hy1 : ∀ q, n1 + 1 ≤ q → ov κ ar x1 S0 (fun _ => none) q = none := fun q z => g_free w (by omega)
  refine nw_RL_12 S hE w (Nat.le_of_ble_eq_true rfl) (Nat.le_of_ble_eq_true rfl) dL_law_8 (fun H w => ?_)
  refine lv_dup hx hb dL_law_11 rfl ?_
  refine g_callv w (g_runI (As := []) (rest := [.ref n1]) S hE w hl (c_X8_init l D ar κ (g_up (ov κ ar x1 S0 (fun _ => none)) n1 (.inr (14, [.null, .null, .null, .int 0, .null, .null, .null, .int 0, .int 0, .int 0, .long 0, .int 0, .null]))) (n1 + 1) (n1) g_up_s) (k_RL_299 S.2.2.2.2 ⟨Nat.le_of_ble_eq_true rfl, Nat.le_of_ble_eq_true rfl⟩) rfl rfl (Nat.le_of_ble_eq_true rfl) dL_law_12 ⟨Nat.le_of_ble_eq_true rfl, Nat.le_of_ble_eq_true rfl⟩) (fun u H locs hp hnz w => ?_)
  have hu2 : u.1 = Wi κ ar (ov κ ar x1 S0 (fun _ => none)) (n1) (n1 + 1) := by rw [hp]; rfl
  have hv2 : u.2 = n1 + 1 + 185 := by rw [hp]
  clear hp
  obtain ⟨g2, n2⟩ := u
  dsimp only at hu2 hv2 w hnz
  subst hu2
  have w := g_sub w (init_sub (h := n1) (q := n1 + 1) (by omega) hz1 hy1)
  obtain ⟨x2, hx2⟩ : ∃ x2, x2 = x0 n1 (n1 + 1) := ⟨_, rfl⟩
  rw [← hx2] at w
  have hk2 : OK x2 S0 := by rw [hx2]; exact OK_0 (by omega)
  have hf2 : x2.f .ho = n1 := by rw [hx2]; rfl
  have hdj : DJ x1 x2 := dj_0 hm1 (fun q t z => by rw [hx2] at z; rcases x0_far z with h2 | h2 <;> omega)
  obtain ⟨a1, ha1⟩ : ∃ a1, a1 = s.heap.size := ⟨_, rfl⟩
  obtain ⟨a2, ha2⟩ : ∃ a2, a2 = n1 := ⟨_, rfl⟩
  refine lv_astore_n (lv' := [(2, .ref n1), (1, .ref s.heap.size), (0, .ref b)]) hx hb dL_law_15 rfl hl (by decide) rfl (fun ls hl => ?_)
  have hl : lv_has ls 10 [(2, .ref a2), (1, .ref a1), (0, .ref b)] := by rw [ha1, ha2]; exact hl
  rw [← ha1] at hf1
  rw [← ha2] at hf2
  refine lv_aload_n hx hb dL_law_16 rfl (lv_at hl 1 rfl) ?_
  have w := g_eqw w (ov_swap (hdj).s)
  rw [← hf1]
  refine g_callv w (g_runS (As := [.ref (x1.f .ho)]) (rest := []) S hE w hl (hL_classes3 l D ar κ (ov κ ar x2 S0 (fun _ => none)) x1 S0 n2 hk1 hlt) (k_RL_300 S.2.2.2.2 ⟨Nat.le_of_ble_eq_true rfl, Nat.le_of_ble_eq_true rfl⟩) rfl rfl (Nat.le_of_ble_eq_true rfl) dL_law_17 ⟨Nat.le_of_ble_eq_true rfl, Nat.le_of_ble_eq_true rfl⟩) (fun u H locs hp hnz w => ?_)
  obtain ⟨T1, e1, hu1, hk1, sq1⟩ := hp
  obtain ⟨v1, m1⟩ := u
  dsimp only at hu1 w hnz
  subst hu1
  refine lv_aload_n hx hb dL_law_20 rfl (lv_at hl 0 rfl) ?_
  have w := g_eqw w (ov_swap hdj)
  rw [← hf2]
  refine g_callv w (g_runS (As := [.ref (x2.f .ho)]) (rest := []) S hE w hl (hL_classes3 l D ar κ (ov κ ar x1 T1 (fun _ => none)) x2 S0 m1 hk2 hlt) (k_RL_300 S.2.2.2.2 ⟨Nat.le_of_ble_eq_true rfl, Nat.le_of_ble_eq_true rfl⟩) rfl rfl (Nat.le_of_ble_eq_true rfl) dL_law_21 ⟨Nat.le_of_ble_eq_true rfl, Nat.le_of_ble_eq_true rfl⟩) (fun u H locs hp hnz w => ?_)
  obtain ⟨T2, e2, hu2, hk2, sq2⟩ := hp
  obtain ⟨v2, m2⟩ := u
  dsimp only at hu2 w hnz
  subst hu2
  have hT2 : T2 = T1 := e2.symm.trans e1
  rw [hT2] at w hk2
  have hLI := li_v li_S0 e1
  refine lv_iconst (v := 0) hx hb dL_law_24 (by decide) ?_
  refine lv_istore_n (lv' := [(3, .int 0), (2, .ref a2), (1, .ref a1), (0, .ref b)]) hx hb dL_law_25 rfl hl (by decide) rfl (fun ls hl => ?_)
  have w := g_eqw w (ov_swap (hdj).s)
  refine W.widen (k := 500 + 330 * 0) (n := 4000 + 13300 * 0) (Nat.le_of_ble_eq_true rfl) (Nat.le_of_ble_eq_true rfl) ?_
  exact law_1 l hlt D ar κ b L xs hL a1 a2 S hr hlk hE hEs 17 0 (by omega) (by omega) x1 x2 T1 (fun _ => none) _ _ _ _ hf1 hf2 hk1 hk2 hdj hLI w (lv_sub hl [0, 1, 2, 3] rfl)
