theorem dX5_init_0 : decode cX5_init 0 = .ok (.aload_n 0, 1) := by decide +kernel
theorem dX5_init_1 : decode cX5_init 1 = .ok (.invokespecial 3, 3) := by decide +kernel
theorem dX5_init_4 : decode cX5_init 4 = .ok (.aload_n 0, 1) := by decide +kernel
theorem dX5_init_5 : decode cX5_init 5 = .ok (.bipush 60, 2) := by decide +kernel
theorem dX5_init_7 : decode cX5_init 7 = .ok (.anewarray 9, 3) := by decide +kernel
theorem dX5_init_10 : decode cX5_init 10 = .ok (.putfield 11, 3) := by decide +kernel
theorem dX5_init_13 : decode cX5_init 13 = .ok (.aload_n 0, 1) := by decide +kernel
theorem dX5_init_14 : decode cX5_init 14 = .ok (.bipush 60, 2) := by decide +kernel
theorem dX5_init_16 : decode cX5_init 16 = .ok (.anewarray 9, 3) := by decide +kernel
theorem dX5_init_19 : decode cX5_init 19 = .ok (.putfield 17, 3) := by decide +kernel
theorem dX5_init_22 : decode cX5_init 22 = .ok (.aload_n 0, 1) := by decide +kernel
theorem dX5_init_23 : decode cX5_init 23 = .ok (.iconst 0, 1) := by decide +kernel
theorem dX5_init_24 : decode cX5_init 24 = .ok (.putfield 20, 3) := by decide +kernel
theorem dX5_init_27 : decode cX5_init 27 = .ok (.aload_n 0, 1) := by decide +kernel
theorem dX5_init_28 : decode cX5_init 28 = .ok (.iconst 0, 1) := by decide +kernel
theorem dX5_init_29 : decode cX5_init 29 = .ok (.putfield 24, 3) := by decide +kernel
theorem dX5_init_32 : decode cX5_init 32 = .ok (.aload_n 0, 1) := by decide +kernel
theorem dX5_init_33 : decode cX5_init 33 = .ok (.iconst 0, 1) := by decide +kernel
theorem dX5_init_34 : decode cX5_init 34 = .ok (.putfield 27, 3) := by decide +kernel
theorem dX5_init_37 : decode cX5_init 37 = .ok (.iconst 0, 1) := by decide +kernel
theorem dX5_init_38 : decode cX5_init 38 = .ok (.istore_n 1, 1) := by decide +kernel
theorem dX5_init_39 : decode cX5_init 39 = .ok (.iload_n 1, 1) := by decide +kernel
theorem dX5_init_40 : decode cX5_init 40 = .ok (.aload_n 0, 1) := by decide +kernel
theorem dX5_init_41 : decode cX5_init 41 = .ok (.getfield 11, 3) := by decide +kernel
theorem dX5_init_44 : decode cX5_init 44 = .ok (.arraylength, 1) := by decide +kernel
theorem dX5_init_45 : decode cX5_init 45 = .ok (.if_icmp .ge 22, 3) := by decide +kernel
theorem dX5_init_48 : decode cX5_init 48 = .ok (.aload_n 0, 1) := by decide +kernel
theorem dX5_init_49 : decode cX5_init 49 = .ok (.getfield 11, 3) := by decide +kernel
theorem dX5_init_52 : decode cX5_init 52 = .ok (.iload_n 1, 1) := by decide +kernel
theorem dX5_init_53 : decode cX5_init 53 = .ok (.new 9, 3) := by decide +kernel
theorem dX5_init_56 : decode cX5_init 56 = .ok (.dup, 1) := by decide +kernel
theorem dX5_init_57 : decode cX5_init 57 = .ok (.invokespecial 30, 3) := by decide +kernel
theorem dX5_init_60 : decode cX5_init 60 = .ok (.aastore, 1) := by decide +kernel
theorem dX5_init_61 : decode cX5_init 61 = .ok (.iinc 1 1, 3) := by decide +kernel
theorem dX5_init_64 : decode cX5_init 64 = .ok (.goto (-25), 3) := by decide +kernel
theorem dX5_init_67 : decode cX5_init 67 = .ok (.return_, 1) := by decide +kernel
section SITES
variable {p : Program} {l : Launch} {e : Env} {R : Room} {s : State} {m : MethodId} {args : Array Value} {below : List Frame} {meth : Method} {c : Code} {H : Heap} {locs : List Loc} {cells slots : Nat} {Q : State → Prop}
variable {pc : Nat} {ls : Array Slot} {rest : List Value} {D : va_G} {ar : Nat → ClassId} {κ : Nat → Nat} {A : Nat → Prop} {a : Nat} {H0 : Heap} {G : gW} {nz nL : Nat} {cc : ByteArray}
theorem m_1_104 : (Cond.methodLink RX5 3 objectInit) ∈ lwA := lwA_mk (ck_1 _ (List.mem_of_getElem? (i := 104) rfl)) rfl
theorem m_1_105 : (Cond.classLink RX5 9 "Sendhouse$Thing") ∈ lwA := lwA_mk (ck_1 _ (List.mem_of_getElem? (i := 105) rfl)) rfl
theorem inA_RX5 : ∀ w ∈ u_ws RX5 TX5 5, w ∈ lwA := gA_r _ [185, 187, 189, 191, 193] (by decide +kernel) (by decide +kernel)
theorem m_1_138 : (Cond.fieldLink RX5 11 "Sendhouse$Things" "all" "[LSendhouse$Thing;") ∈ lwA := lwA_mk (ck_1 _ (List.mem_of_getElem? (i := 138) rfl)) rfl
theorem pf_RX5_11_11 {A9 : Nat → Prop} {H9 : Heap} {fs : List Value} {v : Value} (S : CallFix p m c cc nL s args lwA RX5) (hE : g_E D vwCl (gT ar) (EX1 κ) A9 s H9) (hin : meth.name = "<init>") (w : g_S D vwCl A H0 G H locs nz) (ha : G a = some (.inr (11, fs))) (hn : narrow (.array (.object "Sendhouse$Thing")) v = v) (hfit : fits (.array (.object "Sendhouse$Thing")) v = true) (hl : 0 < fs.length) {fs1 : List Value} (hfs : fs.set 0 v = fs1) (hdg : decode cc pc = .ok (.putfield 11, 3)) (kk : ∀ (H1 : Heap) (locs1 : List Loc), g_S D vwCl A H0 (g_up G a (.inr (11, fs1))) H1 locs1 nz → W p l e R s m args below meth c H1 locs1 cells slots Q (F0 m (pc + 3) ls rest)) : W p l e R s m args below meth c H locs cells slots Q (F0 m pc ls (v :: .ref a :: rest)) :=
  g_putF (ci := 11) (ty := (.array (.object "Sendhouse$Thing"))) (C := RX5) (T := TX5) (N := 5) S.1 S.2.1 S.2.2.2.2 inA_RX5 tyX5 tyX5_ok nmX5 S.2.2.2.1 hE.1 w ha rfl 0 (by decide) (S.2.2.2.2 _ m_1_138) (fun _ h => h) rfl hin rfl (by decide +kernel) hn hfit hl hdg (fun H1 l1 w1 => kk H1 l1 (by rw [← hfs]; exact w1))
theorem m_1_139 : (Cond.fieldLink RX5 17 "Sendhouse$Things" "reached" "[LSendhouse$Thing;") ∈ lwA := lwA_mk (ck_1 _ (List.mem_of_getElem? (i := 139) rfl)) rfl
theorem pf_RX5_17_11 {A9 : Nat → Prop} {H9 : Heap} {fs : List Value} {v : Value} (S : CallFix p m c cc nL s args lwA RX5) (hE : g_E D vwCl (gT ar) (EX1 κ) A9 s H9) (hin : meth.name = "<init>") (w : g_S D vwCl A H0 G H locs nz) (ha : G a = some (.inr (11, fs))) (hn : narrow (.array (.object "Sendhouse$Thing")) v = v) (hfit : fits (.array (.object "Sendhouse$Thing")) v = true) (hl : 1 < fs.length) {fs1 : List Value} (hfs : fs.set 1 v = fs1) (hdg : decode cc pc = .ok (.putfield 17, 3)) (kk : ∀ (H1 : Heap) (locs1 : List Loc), g_S D vwCl A H0 (g_up G a (.inr (11, fs1))) H1 locs1 nz → W p l e R s m args below meth c H1 locs1 cells slots Q (F0 m (pc + 3) ls rest)) : W p l e R s m args below meth c H locs cells slots Q (F0 m pc ls (v :: .ref a :: rest)) :=
  g_putF (ci := 11) (ty := (.array (.object "Sendhouse$Thing"))) (C := RX5) (T := TX5) (N := 5) S.1 S.2.1 S.2.2.2.2 inA_RX5 tyX5 tyX5_ok nmX5 S.2.2.2.1 hE.1 w ha rfl 1 (by decide) (S.2.2.2.2 _ m_1_139) (fun _ h => h) rfl hin rfl (by decide +kernel) hn hfit hl hdg (fun H1 l1 w1 => kk H1 l1 (by rw [← hfs]; exact w1))
theorem m_1_140 : (Cond.fieldLink RX5 20 "Sendhouse$Things" "count" "I") ∈ lwA := lwA_mk (ck_1 _ (List.mem_of_getElem? (i := 140) rfl)) rfl
theorem pf_RX5_20_11 {A9 : Nat → Prop} {H9 : Heap} {fs : List Value} {v : Value} (S : CallFix p m c cc nL s args lwA RX5) (hE : g_E D vwCl (gT ar) (EX1 κ) A9 s H9) (w : g_S D vwCl A H0 G H locs nz) (ha : G a = some (.inr (11, fs))) (hn : narrow .int v = v) (hfit : fits .int v = true) (hl : 2 < fs.length) {fs1 : List Value} (hfs : fs.set 2 v = fs1) (hdg : decode cc pc = .ok (.putfield 20, 3)) (kk : ∀ (H1 : Heap) (locs1 : List Loc), g_S D vwCl A H0 (g_up G a (.inr (11, fs1))) H1 locs1 nz → W p l e R s m args below meth c H1 locs1 cells slots Q (F0 m (pc + 3) ls rest)) : W p l e R s m args below meth c H locs cells slots Q (F0 m pc ls (v :: .ref a :: rest)) :=
  g_put (ci := 11) (ty := .int) (C := RX5) (T := TX5) (N := 5) S.1 S.2.1 S.2.2.2.2 inA_RX5 tyX5 tyX5_ok nmX5 S.2.2.2.1 hE.1 w ha rfl 2 (by decide) (S.2.2.2.2 _ m_1_140) (fun _ h => h) rfl (by decide +kernel) hn hfit hl hdg (fun H1 l1 w1 => kk H1 l1 (by rw [← hfs]; exact w1))
theorem m_1_142 : (Cond.fieldLink RX5 24 "Sendhouse$Things" "reachedCount" "I") ∈ lwA := lwA_mk (ck_1 _ (List.mem_of_getElem? (i := 142) rfl)) rfl
theorem pf_RX5_24_11 {A9 : Nat → Prop} {H9 : Heap} {fs : List Value} {v : Value} (S : CallFix p m c cc nL s args lwA RX5) (hE : g_E D vwCl (gT ar) (EX1 κ) A9 s H9) (w : g_S D vwCl A H0 G H locs nz) (ha : G a = some (.inr (11, fs))) (hn : narrow .int v = v) (hfit : fits .int v = true) (hl : 3 < fs.length) {fs1 : List Value} (hfs : fs.set 3 v = fs1) (hdg : decode cc pc = .ok (.putfield 24, 3)) (kk : ∀ (H1 : Heap) (locs1 : List Loc), g_S D vwCl A H0 (g_up G a (.inr (11, fs1))) H1 locs1 nz → W p l e R s m args below meth c H1 locs1 cells slots Q (F0 m (pc + 3) ls rest)) : W p l e R s m args below meth c H locs cells slots Q (F0 m pc ls (v :: .ref a :: rest)) :=
  g_put (ci := 11) (ty := .int) (C := RX5) (T := TX5) (N := 5) S.1 S.2.1 S.2.2.2.2 inA_RX5 tyX5 tyX5_ok nmX5 S.2.2.2.1 hE.1 w ha rfl 3 (by decide) (S.2.2.2.2 _ m_1_142) (fun _ h => h) rfl (by decide +kernel) hn hfit hl hdg (fun H1 l1 w1 => kk H1 l1 (by rw [← hfs]; exact w1))
theorem m_1_143 : (Cond.fieldLink RX5 27 "Sendhouse$Things" "made" "I") ∈ lwA := lwA_mk (ck_1 _ (List.mem_of_getElem? (i := 143) rfl)) rfl
theorem pf_RX5_27_11 {A9 : Nat → Prop} {H9 : Heap} {fs : List Value} {v : Value} (S : CallFix p m c cc nL s args lwA RX5) (hE : g_E D vwCl (gT ar) (EX1 κ) A9 s H9) (w : g_S D vwCl A H0 G H locs nz) (ha : G a = some (.inr (11, fs))) (hn : narrow .int v = v) (hfit : fits .int v = true) (hl : 4 < fs.length) {fs1 : List Value} (hfs : fs.set 4 v = fs1) (hdg : decode cc pc = .ok (.putfield 27, 3)) (kk : ∀ (H1 : Heap) (locs1 : List Loc), g_S D vwCl A H0 (g_up G a (.inr (11, fs1))) H1 locs1 nz → W p l e R s m args below meth c H1 locs1 cells slots Q (F0 m (pc + 3) ls rest)) : W p l e R s m args below meth c H locs cells slots Q (F0 m pc ls (v :: .ref a :: rest)) :=
  g_put (ci := 11) (ty := .int) (C := RX5) (T := TX5) (N := 5) S.1 S.2.1 S.2.2.2.2 inA_RX5 tyX5 tyX5_ok nmX5 S.2.2.2.1 hE.1 w ha rfl 4 (by decide) (S.2.2.2.2 _ m_1_143) (fun _ h => h) rfl (by decide +kernel) hn hfit hl hdg (fun H1 l1 w1 => kk H1 l1 (by rw [← hfs]; exact w1))
theorem gf_RX5_11_11 {A9 : Nat → Prop} {H9 : Heap} {fs : List Value} {v : Value} (S : CallFix p m c cc nL s args lwA RX5) (hE : g_E D vwCl (gT ar) (EX1 κ) A9 s H9) (w : g_S D vwCl A H0 G H locs nz) (ha : G a = some (.inr (11, fs))) (hv : fs[0]? = some v) (hdg : decode cc pc = .ok (.getfield 11, 3)) (kk : W p l e R s m args below meth c H locs cells slots Q (F0 m (pc + 3) ls (v :: rest))) : W p l e R s m args below meth c H locs cells slots Q (F0 m pc ls (.ref a :: rest)) :=
  va_get (ci := 11) (C := RX5) (T := TX5) (N := 5) S.1 S.2.1 S.2.2.2.2 inA_RX5 S.2.2.2.1 hE.1 (g_1 w.1 ha) 0 rfl rfl 0 (by decide) (S.2.2.2.2 _ m_1_138) (fun _ h => h) hv hdg kk
theorem m_1_107 : (Cond.instantiable RX4 5) ∈ lwA := lwA_mk (ck_1 _ (List.mem_of_getElem? (i := 107) rfl)) rfl
theorem m_1_5 : (Cond.initialized RX4) ∈ lwA := lwA_mk (ck_1 _ (List.mem_of_getElem? (i := 5) rfl)) rfl
theorem nw_RX5_9 {A9 : Nat → Prop} {H9 : Heap} (S : CallFix p m c cc nL s args lwA RX5) (hE : g_E D vwCl (gT ar) (EX1 κ) A9 s H9) (w : g_S D vwCl A H0 G H locs nz) (hcells : cells + 1 ≤ R.cells) (hslots : slots + 5 ≤ R.slots) (hdg : decode cc pc = .ok (.new 9, 3)) (kk : ∀ (H1 : Heap), g_S D vwCl A H0 (g_up G nz (.inr (10, [.null, .int 0, .int 0, .int 0, .int 0]))) H1 locs (nz + 1) → W p l e R s m args below meth c H1 locs (cells + 1) (slots + 5) Q (F0 m (pc + 3) ls (.ref nz :: rest))) : W p l e R s m args below meth c H locs cells slots Q (F0 m pc ls rest) :=
  g_new (ci := 10) (fs := [.null, .int 0, .int 0, .int 0, .int 0]) (C := RX4) (T := TX4) (N := 5) S.1 S.2.1 S.2.2.2.2 inA_RX4 tyX4 tyX4_ok S.2.2.2.1 (S.2.2.2.2 _ m_1_105) (S.2.2.2.2 _ m_1_107) (S.2.2.2.2 _ m_1_5) hE.1 w rfl (fun j hj => by rcases (show j = 0 ∨ j = 1 ∨ j = 2 ∨ j = 3 ∨ j = 4 by omega) with rfl | rfl | rfl | rfl | rfl <;> rfl) hcells hslots hdg kk
theorem m_1_110 : (Cond.code yX4_init cX4_init 1 none) ∈ lwA := lwA_mk (ck_1 _ (List.mem_of_getElem? (i := 110) rfl)) rfl
theorem m_1_109 : (Cond.instanceMethod yX4_init) ∈ lwA := lwA_mk (ck_1 _ (List.mem_of_getElem? (i := 109) rfl)) rfl
theorem k_RX5_30 {args : Array Value} {s : State} {R rm : Room} (hts : ∀ w ∈ lwA, w.before args s = true) (hN : va_Nw (.methodLinkNest RX5 30 yX4_init "Sendhouse") s) (hR : rm.frames + 1 ≤ R.frames ∧ 8 + (1 + 11) + rm.locals ≤ R.locals) : va_CN R s args RX5 30 yX4_init "Sendhouse" cX4_init 1 none (lwC yX4_init cX4_init 1 none) rm rm.cells rm.slots 0 ∧ yX4_init.name = "<init>" ∧ (Cond.instanceMethod yX4_init).before args s = true := ⟨va_cnB 0 hts (gd m_1_110) rfl rfl rfl hN (hts _ m_1_5) (by decide +kernel) hR, rfl, hts _ m_1_109⟩
end SITES
/-- i things behind each other from q on: an object and its eight places each -/
def thG (W : gW) (ar : Nat → ClassId) (q i : Nat) : gW := fun a => if q ≤ a ∧ a < q + 2 * i then (if (a - q) % 2 = 0 then some (.inr (10, [.ref (a + 1), .int 0, .int 0, .int 0, .int 0])) else some (.inl (ar 1, 8, .inr (.inl (fun _ => 0))))) else W a
def thF (q i : Nat) : Nat → Option Nat := fun k => if k < i then some (q + 2 * k) else none
theorem thG_0 {W : gW} {ar : Nat → ClassId} {q : Nat} : thG W ar q 0 = W := by
  funext a
  unfold thG
  rw [if_neg (by omega)]
theorem thG_b {W : gW} {ar : Nat → ClassId} {q i a : Nat} {e : va_E} (h : a < q) (hw : W a = some e) : thG W ar q i a = some e := by
  unfold thG
  rw [if_neg (by omega)]
  exact hw
theorem thG_s {W : gW} {ar : Nat → ClassId} {q i b a1 a2 : Nat} {e : va_E} (h1 : a1 = q + 2 * i) (h2 : a2 = q + 2 * i + 1) (hb : b < q) : g_up (g_up (g_up (thG W ar q i) a1 (.inr (10, [.ref a2, .int 0, .int 0, .int 0, .int 0]))) a2 (.inl (ar 1, 8, .inr (.inl (fun _ => 0))))) b e = thG (g_up W b e) ar q (i + 1) := by
  subst h1 h2
  funext a
  by_cases c0 : a = b
  · subst c0
    rw [g_up_s]
    unfold thG
    rw [if_neg (by omega), g_up_s]
  · rw [g_up_n c0]
    by_cases c1 : a = q + 2 * i + 1
    · subst c1
      rw [g_up_s]
      unfold thG
      rw [if_pos (by omega), if_neg (by omega)]
    · rw [g_up_n c1]
      by_cases c2 : a = q + 2 * i
      · subst c2
        rw [g_up_s]
        unfold thG
        rw [if_pos (by omega), if_pos (by omega)]
      · rw [g_up_n c2]
        unfold thG
        by_cases c3 : q ≤ a ∧ a < q + 2 * i
        · have c9 : q ≤ a ∧ a < q + 2 * (i + 1) := by omega
          rw [if_pos c3, if_pos c9]
        · rw [if_neg c3, if_neg (by omega), g_up_n c0]
theorem thF_0 {q : Nat} : thF q 0 = fun _ => none := by funext k; simp [thF]
theorem thF_s {q i y : Nat} (h : i < 2 ^ 31) (hy : y = q + 2 * i) : va_up (thF q i) (nI i).toNatClampNeg (some y) = thF q (i + 1) := by
  subst hy
  funext k
  rw [nI_clamp h]
  unfold va_up thF
  by_cases h1 : k = i
  · simp [h1]
  · by_cases h2 : k < i
    · have h3 : k < i + 1 := by omega
      simp [h1, h2, h3]
    · have h3 : ¬ k < i + 1 := by omega
      simp [h1, h2, h3]
/-- i frames from q on: an object and its three rows each -/
def frG (W : gW) (ar : Nat → ClassId) (q i : Nat) : gW := fun a => if q ≤ a ∧ a < q + 4 * i then (if (a - q) % 4 = 0 then some (.inr (7, [.ref (a + 1), .ref (a + 2), .ref (a + 3), .null, .long 502511173632, .int 0, .int 0])) else if (a - q) % 4 = 1 then some (.inl (ar 1, 2, .inr (.inl (fun _ => 0)))) else if (a - q) % 4 = 2 then some (.inl (ar 1, 4, .inr (.inl (fun _ => 0)))) else some (.inl (ar 1, 8, .inr (.inl (fun _ => 0))))) else W a
def frF (q i : Nat) : Nat → Option Nat := fun k => if k < i then some (q + 4 * k) else none
theorem frG_0 {W : gW} {ar : Nat → ClassId} {q : Nat} : frG W ar q 0 = W := by
  funext a
  unfold frG
  rw [if_neg (by omega)]
theorem frG_b {W : gW} {ar : Nat → ClassId} {q i a : Nat} {e : va_E} (h : a < q) (hw : W a = some e) : frG W ar q i a = some e := by
  unfold frG
  rw [if_neg (by omega)]
  exact hw
theorem frG_s {W : gW} {ar : Nat → ClassId} {q i b a1 a2 a3 a4 : Nat} {e : va_E} (h1 : a1 = q + 4 * i) (h2 : a2 = q + 4 * i + 1) (h3 : a3 = q + 4 * i + 2) (h4 : a4 = q + 4 * i + 3) (hb : b < q) : g_up (g_up (g_up (g_up (g_up (frG W ar q i) a1 (.inr (7, [.ref a2, .ref a3, .ref a4, .null, .long 502511173632, .int 0, .int 0]))) a2 (.inl (ar 1, 2, .inr (.inl (fun _ => 0))))) a3 (.inl (ar 1, 4, .inr (.inl (fun _ => 0))))) a4 (.inl (ar 1, 8, .inr (.inl (fun _ => 0))))) b e = frG (g_up W b e) ar q (i + 1) := by
  subst h1 h2 h3 h4
  funext a
  by_cases c0 : a = b
  · subst c0
    rw [g_up_s]
    unfold frG
    rw [if_neg (by omega), g_up_s]
  · rw [g_up_n c0]
    by_cases c1 : a = q + 4 * i + 3
    · subst c1
      rw [g_up_s]
      unfold frG
      rw [if_pos (by omega), if_neg (by omega), if_neg (by omega), if_neg (by omega)]
    · rw [g_up_n c1]
      by_cases c2 : a = q + 4 * i + 2
      · subst c2
        rw [g_up_s]
        unfold frG
        rw [if_pos (by omega), if_neg (by omega), if_neg (by omega), if_pos (by omega)]
      · rw [g_up_n c2]
        by_cases c4 : a = q + 4 * i + 1
        · subst c4
          rw [g_up_s]
          unfold frG
          rw [if_pos (by omega), if_neg (by omega), if_pos (by omega)]
        · rw [g_up_n c4]
          by_cases c5 : a = q + 4 * i
          · subst c5
            rw [g_up_s]
            unfold frG
            rw [if_pos (by omega), if_pos (by omega)]
          · rw [g_up_n c5]
            unfold frG
            by_cases c3 : q ≤ a ∧ a < q + 4 * i
            · have c9 : q ≤ a ∧ a < q + 4 * (i + 1) := by omega
              rw [if_pos c3, if_pos c9]
            · rw [if_neg c3, if_neg (by omega), g_up_n c0]
theorem frF_0 {q : Nat} : frF q 0 = fun _ => none := by funext k; simp [frF]
theorem frF_s {q i y : Nat} (h : i < 2 ^ 31) (hy : y = q + 4 * i) : va_up (frF q i) (nI i).toNatClampNeg (some y) = frF q (i + 1) := by
  subst hy
  funext k
  rw [nI_clamp h]
  unfold va_up frF
  by_cases h1 : k = i
  · simp [h1]
  · by_cases h2 : k < i
    · have h3 : k < i + 1 := by omega
      simp [h1, h2, h3]
    · have h3 : ¬ k < i + 1 := by omega
      simp [h1, h2, h3]
set_option maxHeartbeats 4000000 in
set_option maxRecDepth 100000 in
theorem c_X5_init (l : Launch) (D : va_G) (ar : Nat → ClassId) (κ : Nat → Nat) (G : gW) (sz : Nat) (o : Nat) (ho : G o = some (.inr (11, [.null, .null, .int 0, .int 0, .int 0]))) : Met l yX5_init (lwC yX5_init cX5_init 2 none) (rD 4 122 900) (g_Pc D vwCl (gT ar) (EX1 κ) G sz [.ref o]) (g_Qv D vwCl (g_A G sz) (fun u => u = ((thG (g_up (g_up (g_up G sz (.inl (ar 6, 60, .inr (.inr (.inr (.inr (thF (sz + 2) 60))))))) o (.inr (11, [.ref sz, .ref (sz + 1), .int 0, .int 0, .int 0]))) (sz + 1) (.inl (ar 6, 60, .inr (.inr (.inr (.inr (fun _ => none))))))) ar (sz + 2) 60), sz + 122))) 122 900 (g_A G sz) := by
  refine g_ofW (by decide +kernel) (Nat.le_of_ble_eq_true rfl) ?_
  intro p e s m below meth c ls S hr hlk hin hE w hl
  have hx := S.1
  have hb := S.2.1
  have hl : lv_has ls 2 [(0, .ref o)] := hl
  have lt_ho : o < sz := g_ltn w ho
  refine lv_aload_n hx hb dX5_init_0 rfl (lv_at hl 0 rfl) ?_
  refine W.objInit hx hb S.2.2.2.1 (S.2.2.2.2 _ m_1_104) (S.2.2.2.2 _ m_1_46) (S.2.2.2.2 _ m_obj) rfl (by rw [S.2.2.1]; exact hl.1) rfl dX5_init_1 (Nat.le_of_ble_eq_true rfl) (Nat.le_of_ble_eq_true rfl) ?_
  refine W.eq (g2 := F0 m 4 ls []) rfl ?_
  refine lv_aload_n hx hb dX5_init_4 rfl (lv_at hl 0 rfl) ?_
  refine lv_bipush (v := 60) hx hb dX5_init_5 (by decide) ?_
  refine g_newq (N' := 60) hx hb S.2.2.2.1 (S.2.2.2.2 _ m_1_105) (va_AO.use (C := "Sendhouse$Thing") (hE.2.1.1 _ (ckN_0 _ (List.mem_of_getElem? (i := 5) rfl)))) hE.1 w 6 rfl (by decide) rfl (Nat.le_of_ble_eq_true rfl) (Nat.le_of_ble_eq_true rfl) (Nat.le_of_ble_eq_true rfl) dX5_init_7 (fun H w => ?_)
  refine pf_RX5_11_11 (fs1 := [.ref sz, .null, .int 0, .int 0, .int 0]) S hE hin w (g_up_o (by omega) ho) rfl rfl (Nat.le_of_ble_eq_true rfl) rfl dX5_init_10 (fun H locs w => ?_)
  refine lv_aload_n hx hb dX5_init_13 rfl (lv_at hl 0 rfl) ?_
  refine lv_bipush (v := 60) hx hb dX5_init_14 (by decide) ?_
  refine g_newq (N' := 60) hx hb S.2.2.2.1 (S.2.2.2.2 _ m_1_105) (va_AO.use (C := "Sendhouse$Thing") (hE.2.1.1 _ (ckN_0 _ (List.mem_of_getElem? (i := 5) rfl)))) hE.1 w 6 rfl (by decide) rfl (Nat.le_of_ble_eq_true rfl) (Nat.le_of_ble_eq_true rfl) (Nat.le_of_ble_eq_true rfl) dX5_init_16 (fun H w => ?_)
  refine pf_RX5_17_11 (fs1 := [.ref sz, .ref (sz + 1), .int 0, .int 0, .int 0]) S hE hin w (g_up_o (by omega) g_up_s) rfl rfl (Nat.le_of_ble_eq_true rfl) rfl dX5_init_19 (fun H locs w => ?_)
  have w := g_eqw w (g_inn g_over (by omega))
  refine lv_aload_n hx hb dX5_init_22 rfl (lv_at hl 0 rfl) ?_
  refine lv_iconst (v := 0) hx hb dX5_init_23 (by decide) ?_
  refine pf_RX5_20_11 (fs1 := [.ref sz, .ref (sz + 1), .int 0, .int 0, .int 0]) S hE w (g_up_o (by omega) g_up_s) rfl rfl (Nat.le_of_ble_eq_true rfl) rfl dX5_init_24 (fun H locs w => ?_)
  have w := g_eqw w (g_inn g_over (by omega))
  refine lv_aload_n hx hb dX5_init_27 rfl (lv_at hl 0 rfl) ?_
  refine lv_iconst (v := 0) hx hb dX5_init_28 (by decide) ?_
  refine pf_RX5_24_11 (fs1 := [.ref sz, .ref (sz + 1), .int 0, .int 0, .int 0]) S hE w (g_up_o (by omega) g_up_s) rfl rfl (Nat.le_of_ble_eq_true rfl) rfl dX5_init_29 (fun H locs w => ?_)
  have w := g_eqw w (g_inn g_over (by omega))
  refine lv_aload_n hx hb dX5_init_32 rfl (lv_at hl 0 rfl) ?_
  refine lv_iconst (v := 0) hx hb dX5_init_33 (by decide) ?_
  refine pf_RX5_27_11 (fs1 := [.ref sz, .ref (sz + 1), .int 0, .int 0, .int 0]) S hE w (g_up_o (by omega) g_up_s) rfl rfl (Nat.le_of_ble_eq_true rfl) rfl dX5_init_34 (fun H locs w => ?_)
  have w := g_eqw w (g_inn g_over (by omega))
  refine lv_iconst (v := 0) hx hb dX5_init_37 (by decide) ?_
  refine lv_istore_n (lv' := [(1, .int 0), (0, .ref o)]) hx hb dX5_init_38 rfl hl (by decide) rfl (fun ls hl => ?_)
  have key : ∀ (n9 i : Nat), i ≤ 60 → 60 + 1 ≤ i + n9 → ∀ (x9 : Int32), x9 = nI i → ∀ (H : Heap) (locs : List Loc) (ls : Array Slot), g_S D vwCl (g_A G sz) s.heap ((thG (g_up (g_up (g_up G sz (.inl (ar 6, 60, .inr (.inr (.inr (.inr (thF (sz + 2) i))))))) o (.inr (11, [.ref sz, .ref (sz + 1), .int 0, .int 0, .int 0]))) (sz + 1) (.inl (ar 6, 60, .inr (.inr (.inr (.inr (fun _ => none))))))) ar (sz + 2) i)) H locs (sz + 2 + 2 * i) → lv_has ls 2 [(1, .int x9), (0, .ref o)] → W p l e (rD 4 122 900) s m ([.ref o] : List Value).toArray below meth c H locs (2 + 2 * i) (120 + 13 * i) (MQ below (g_Qv D vwCl (g_A G sz) (fun u => u = ((thG (g_up (g_up (g_up G sz (.inl (ar 6, 60, .inr (.inr (.inr (.inr (thF (sz + 2) 60))))))) o (.inr (11, [.ref sz, .ref (sz + 1), .int 0, .int 0, .int 0]))) (sz + 1) (.inl (ar 6, 60, .inr (.inr (.inr (.inr (fun _ => none))))))) ar (sz + 2) 60), sz + 122))) ([.ref o] : List Value).toArray s 122 900 (g_A G sz)) (F0 m 39 ls []) := by
    intro n9
    induction n9 with
    | zero => intro i hi1 hi2; exact absurd hi2 (by omega)
    | succ n9 ih =>
      intro i hi1 hi2 x9 ex9 H locs ls w hl
      refine lv_iload_n hx hb dX5_init_39 rfl (lv_at hl 0 rfl) ?_
      refine lv_aload_n hx hb dX5_init_40 rfl (lv_at hl 1 rfl) ?_
      refine gf_RX5_11_11 S hE w (thG_b (by omega) (g_up_o (by omega) g_up_s)) rfl dX5_init_41 ?_
      refine va_alen (v := 60) hx hb hE.1 (g_1 w.1 (thG_b (by omega) (g_up_o (by omega) (g_up_o (by omega) g_up_s)))) 0 6 rfl rfl rfl dX5_init_44 ?_
      refine lv_icmp_ge (tgt := 67) hx hb dX5_init_45 (by decide) (fun c_45 => ?_) (fun c_45 => ?_)
      · have hin9 := lp_eq (n := 60) rfl ex9 hi1 (by decide) c_45
        exact g_vret hx hb hr hlk w (by (try dsimp only [rD]); omega) (by (try dsimp only [rD]); omega) dX5_init_67 (by rw [hin9])
      · have hlt9 := lp_lt (n := 60) rfl ex9 hi1 (by decide) c_45
        refine lv_aload_n hx hb dX5_init_48 rfl (lv_at hl 1 rfl) ?_
        refine gf_RX5_11_11 S hE w (thG_b (by omega) (g_up_o (by omega) g_up_s)) rfl dX5_init_49 ?_
        refine lv_iload_n hx hb dX5_init_52 rfl (lv_at hl 0 rfl) ?_
        refine nw_RX5_9 S hE w (by (try dsimp only [rD]); omega) (by (try dsimp only [rD]); omega) dX5_init_53 (fun H w => ?_)
        refine lv_dup hx hb dX5_init_56 rfl ?_
        refine g_callv w (g_runIN (As := []) (rest := [.ref (sz + 2 + 2 * i), .int x9, .ref sz]) S hE w hl (c_X4_init l D ar κ (g_up (thG (g_up (g_up (g_up G sz (.inl (ar 6, 60, .inr (.inr (.inr (.inr (thF (sz + 2) i))))))) o (.inr (11, [.ref sz, .ref (sz + 1), .int 0, .int 0, .int 0]))) (sz + 1) (.inl (ar 6, 60, .inr (.inr (.inr (.inr (fun _ => none))))))) ar (sz + 2) i) (sz + 2 + 2 * i) (.inr (10, [.null, .int 0, .int 0, .int 0, .int 0]))) (sz + 2 + 2 * i + 1) (sz + 2 + 2 * i) g_up_s) (k_RX5_30 S.2.2.2.2 (hE.2.1.1 _ (ckN_0 _ (List.mem_of_getElem? (i := 6) rfl))) ⟨Nat.le_of_ble_eq_true rfl, Nat.le_of_ble_eq_true rfl⟩) rfl rfl (Nat.le_of_ble_eq_true rfl) dX5_init_57 ⟨(by (try dsimp only [rD]); omega), (by (try dsimp only [rD]); omega)⟩) (fun u H locs hp hnz w => ?_)
        obtain rfl := hp
        dsimp only at w
        have w := g_eqw w (g_inn g_over (by omega))
        refine g_astq (r := (RX4, TX4, 5)) hx hb hE.1 w 6 10 (g_up_o (by omega) (g_up_o (by omega) (thG_b (by omega) (g_up_o (by omega) (g_up_o (by omega) g_up_s))))) rfl (g_up_o (by omega) g_up_s) rfl (by rw [ex9]; exact vp_in_nI (by omega) (by decide)) dX5_init_60 (fun H locs w => ?_)
        refine lv_iinc (v := x9 + 1) (lv' := [(1, .int (x9 + 1)), (0, .ref o)]) hx hb dX5_init_61 hl (k := 0) rfl rfl (by decide) rfl (fun ls hl => ?_)
        refine lv_goto (tgt := 39) hx hb dX5_init_64 (by decide) ?_
        refine W.widen (k := 2 + 2 * (i + 1)) (n := 120 + 13 * (i + 1)) (by omega) (by omega) ?_
        rw [thG_s (by omega) (by omega) (by omega)] at w
        have w := g_eqw w (congrArg (fun X => thG X ar (sz + 2) (i + 1)) (g_inn (g_inn g_over (by omega)) (by omega)))
        rw [ex9, thF_s (by omega) (by omega)] at w
        exact ih (i + 1) (by omega) (by omega) _ (by rw [ex9]; exact nI_1 i) _ _ _ w (lv_sub hl [0, 1] rfl)
  exact key 61 0 (Nat.zero_le _) (by omega) 0 rfl _ _ _ (g_eqw w (by rw [thG_0, thF_0])) (lv_sub hl [0, 1] rfl)
