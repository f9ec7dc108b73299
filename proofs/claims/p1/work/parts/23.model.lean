theorem dX14_init_0 : decode cX14_init 0 = .ok (.aload_n 0, 1) := by decide +kernel
theorem dX14_init_1 : decode cX14_init 1 = .ok (.invokespecial 1, 3) := by decide +kernel
theorem dX14_init_4 : decode cX14_init 4 = .ok (.aload_n 0, 1) := by decide +kernel
theorem dX14_init_5 : decode cX14_init 5 = .ok (.iload_n 1, 1) := by decide +kernel
theorem dX14_init_6 : decode cX14_init 6 = .ok (.putfield 7, 3) := by decide +kernel
theorem dX14_init_9 : decode cX14_init 9 = .ok (.aload_n 0, 1) := by decide +kernel
theorem dX14_init_10 : decode cX14_init 10 = .ok (.iload_n 2, 1) := by decide +kernel
theorem dX14_init_11 : decode cX14_init 11 = .ok (.putfield 13, 3) := by decide +kernel
theorem dX14_init_14 : decode cX14_init 14 = .ok (.return_, 1) := by decide +kernel
theorem dX10_init_0 : decode cX10_init 0 = .ok (.aload_n 0, 1) := by decide +kernel
theorem dX10_init_1 : decode cX10_init 1 = .ok (.invokespecial 3, 3) := by decide +kernel
theorem dX10_init_4 : decode cX10_init 4 = .ok (.aload_n 0, 1) := by decide +kernel
theorem dX10_init_5 : decode cX10_init 5 = .ok (.bipush 16, 2) := by decide +kernel
theorem dX10_init_7 : decode cX10_init 7 = .ok (.anewarray 9, 3) := by decide +kernel
theorem dX10_init_10 : decode cX10_init 10 = .ok (.putfield 11, 3) := by decide +kernel
theorem dX10_init_13 : decode cX10_init 13 = .ok (.aload_n 0, 1) := by decide +kernel
theorem dX10_init_14 : decode cX10_init 14 = .ok (.iload_n 1, 1) := by decide +kernel
theorem dX10_init_15 : decode cX10_init 15 = .ok (.putfield 17, 3) := by decide +kernel
theorem dX10_init_18 : decode cX10_init 18 = .ok (.aload_n 0, 1) := by decide +kernel
theorem dX10_init_19 : decode cX10_init 19 = .ok (.iload_n 2, 1) := by decide +kernel
theorem dX10_init_20 : decode cX10_init 20 = .ok (.putfield 21, 3) := by decide +kernel
theorem dX10_init_23 : decode cX10_init 23 = .ok (.return_, 1) := by decide +kernel
theorem dX15_init_0 : decode cX15_init 0 = .ok (.aload_n 0, 1) := by decide +kernel
theorem dX15_init_1 : decode cX15_init 1 = .ok (.invokespecial 1, 3) := by decide +kernel
theorem dX15_init_4 : decode cX15_init 4 = .ok (.aload_n 0, 1) := by decide +kernel
theorem dX15_init_5 : decode cX15_init 5 = .ok (.new 7, 3) := by decide +kernel
theorem dX15_init_8 : decode cX15_init 8 = .ok (.dup, 1) := by decide +kernel
theorem dX15_init_9 : decode cX15_init 9 = .ok (.bipush 117, 2) := by decide +kernel
theorem dX15_init_11 : decode cX15_init 11 = .ok (.iconst 0, 1) := by decide +kernel
theorem dX15_init_12 : decode cX15_init 12 = .ok (.invokespecial 9, 3) := by decide +kernel
theorem dX15_init_15 : decode cX15_init 15 = .ok (.putfield 12, 3) := by decide +kernel
theorem dX15_init_18 : decode cX15_init 18 = .ok (.aload_n 0, 1) := by decide +kernel
theorem dX15_init_19 : decode cX15_init 19 = .ok (.new 18, 3) := by decide +kernel
theorem dX15_init_22 : decode cX15_init 22 = .ok (.dup, 1) := by decide +kernel
theorem dX15_init_23 : decode cX15_init 23 = .ok (.invokespecial 20, 3) := by decide +kernel
theorem dX15_init_26 : decode cX15_init 26 = .ok (.putfield 21, 3) := by decide +kernel
theorem dX15_init_29 : decode cX15_init 29 = .ok (.aload_n 0, 1) := by decide +kernel
theorem dX15_init_30 : decode cX15_init 30 = .ok (.new 18, 3) := by decide +kernel
theorem dX15_init_33 : decode cX15_init 33 = .ok (.dup, 1) := by decide +kernel
theorem dX15_init_34 : decode cX15_init 34 = .ok (.invokespecial 20, 3) := by decide +kernel
theorem dX15_init_37 : decode cX15_init 37 = .ok (.putfield 25, 3) := by decide +kernel
theorem dX15_init_40 : decode cX15_init 40 = .ok (.aload_n 0, 1) := by decide +kernel
theorem dX15_init_41 : decode cX15_init 41 = .ok (.new 18, 3) := by decide +kernel
theorem dX15_init_44 : decode cX15_init 44 = .ok (.dup, 1) := by decide +kernel
theorem dX15_init_45 : decode cX15_init 45 = .ok (.invokespecial 20, 3) := by decide +kernel
theorem dX15_init_48 : decode cX15_init 48 = .ok (.putfield 28, 3) := by decide +kernel
theorem dX15_init_51 : decode cX15_init 51 = .ok (.aload_n 0, 1) := by decide +kernel
theorem dX15_init_52 : decode cX15_init 52 = .ok (.new 18, 3) := by decide +kernel
theorem dX15_init_55 : decode cX15_init 55 = .ok (.dup, 1) := by decide +kernel
theorem dX15_init_56 : decode cX15_init 56 = .ok (.invokespecial 20, 3) := by decide +kernel
theorem dX15_init_59 : decode cX15_init 59 = .ok (.putfield 31, 3) := by decide +kernel
theorem dX15_init_62 : decode cX15_init 62 = .ok (.aload_n 0, 1) := by decide +kernel
theorem dX15_init_63 : decode cX15_init 63 = .ok (.new 18, 3) := by decide +kernel
theorem dX15_init_66 : decode cX15_init 66 = .ok (.dup, 1) := by decide +kernel
theorem dX15_init_67 : decode cX15_init 67 = .ok (.invokespecial 20, 3) := by decide +kernel
theorem dX15_init_70 : decode cX15_init 70 = .ok (.putfield 34, 3) := by decide +kernel
theorem dX15_init_73 : decode cX15_init 73 = .ok (.aload_n 0, 1) := by decide +kernel
theorem dX15_init_74 : decode cX15_init 74 = .ok (.bipush 8, 2) := by decide +kernel
theorem dX15_init_76 : decode cX15_init 76 = .ok (.anewarray 7, 3) := by decide +kernel
theorem dX15_init_79 : decode cX15_init 79 = .ok (.putfield 37, 3) := by decide +kernel
theorem dX15_init_82 : decode cX15_init 82 = .ok (.aload_n 0, 1) := by decide +kernel
theorem dX15_init_83 : decode cX15_init 83 = .ok (.bipush 45, 2) := by decide +kernel
theorem dX15_init_85 : decode cX15_init 85 = .ok (.putfield 41, 3) := by decide +kernel
theorem dX15_init_88 : decode cX15_init 88 = .ok (.iconst 0, 1) := by decide +kernel
theorem dX15_init_89 : decode cX15_init 89 = .ok (.istore_n 1, 1) := by decide +kernel
theorem dX15_init_90 : decode cX15_init 90 = .ok (.iload_n 1, 1) := by decide +kernel
theorem dX15_init_91 : decode cX15_init 91 = .ok (.bipush 8, 2) := by decide +kernel
theorem dX15_init_93 : decode cX15_init 93 = .ok (.if_icmp .ge 19, 3) := by decide +kernel
theorem dX15_init_96 : decode cX15_init 96 = .ok (.aload_n 0, 1) := by decide +kernel
theorem dX15_init_97 : decode cX15_init 97 = .ok (.getfield 37, 3) := by decide +kernel
theorem dX15_init_100 : decode cX15_init 100 = .ok (.iload_n 1, 1) := by decide +kernel
theorem dX15_init_101 : decode cX15_init 101 = .ok (.aload_n 0, 1) := by decide +kernel
theorem dX15_init_102 : decode cX15_init 102 = .ok (.getfield 12, 3) := by decide +kernel
theorem dX15_init_105 : decode cX15_init 105 = .ok (.aastore, 1) := by decide +kernel
theorem dX15_init_106 : decode cX15_init 106 = .ok (.iinc 1 1, 3) := by decide +kernel
theorem dX15_init_109 : decode cX15_init 109 = .ok (.goto (-19), 3) := by decide +kernel
theorem dX15_init_112 : decode cX15_init 112 = .ok (.aload_n 0, 1) := by decide +kernel
theorem dX15_init_113 : decode cX15_init 113 = .ok (.getfield 21, 3) := by decide +kernel
theorem dX15_init_116 : decode cX15_init 116 = .ok (.new 45, 3) := by decide +kernel
theorem dX15_init_119 : decode cX15_init 119 = .ok (.dup, 1) := by decide +kernel
theorem dX15_init_120 : decode cX15_init 120 = .ok (.iconst (-1), 1) := by decide +kernel
theorem dX15_init_121 : decode cX15_init 121 = .ok (.iconst 0, 1) := by decide +kernel
theorem dX15_init_122 : decode cX15_init 122 = .ok (.invokespecial 47, 3) := by decide +kernel
theorem dX15_init_125 : decode cX15_init 125 = .ok (.invokevirtual 50, 3) := by decide +kernel
theorem dX15_init_128 : decode cX15_init 128 = .ok (.pop, 1) := by decide +kernel
theorem dX15_init_129 : decode cX15_init 129 = .ok (.aload_n 0, 1) := by decide +kernel
theorem dX15_init_130 : decode cX15_init 130 = .ok (.getfield 21, 3) := by decide +kernel
theorem dX15_init_133 : decode cX15_init 133 = .ok (.new 45, 3) := by decide +kernel
theorem dX15_init_136 : decode cX15_init 136 = .ok (.dup, 1) := by decide +kernel
theorem dX15_init_137 : decode cX15_init 137 = .ok (.iconst 0, 1) := by decide +kernel
theorem dX15_init_138 : decode cX15_init 138 = .ok (.iconst 0, 1) := by decide +kernel
theorem dX15_init_139 : decode cX15_init 139 = .ok (.invokespecial 47, 3) := by decide +kernel
theorem dX15_init_142 : decode cX15_init 142 = .ok (.invokevirtual 50, 3) := by decide +kernel
theorem dX15_init_145 : decode cX15_init 145 = .ok (.pop, 1) := by decide +kernel
theorem dX15_init_146 : decode cX15_init 146 = .ok (.aload_n 0, 1) := by decide +kernel
theorem dX15_init_147 : decode cX15_init 147 = .ok (.getfield 21, 3) := by decide +kernel
theorem dX15_init_150 : decode cX15_init 150 = .ok (.new 45, 3) := by decide +kernel
theorem dX15_init_153 : decode cX15_init 153 = .ok (.dup, 1) := by decide +kernel
theorem dX15_init_154 : decode cX15_init 154 = .ok (.iconst 0, 1) := by decide +kernel
theorem dX15_init_155 : decode cX15_init 155 = .ok (.iconst 0, 1) := by decide +kernel
theorem dX15_init_156 : decode cX15_init 156 = .ok (.invokespecial 47, 3) := by decide +kernel
theorem dX15_init_159 : decode cX15_init 159 = .ok (.invokevirtual 50, 3) := by decide +kernel
theorem dX15_init_162 : decode cX15_init 162 = .ok (.pop, 1) := by decide +kernel
theorem dX15_init_163 : decode cX15_init 163 = .ok (.return_, 1) := by decide +kernel
section SITES
variable {p : Program} {l : Launch} {e : Env} {R : Room} {s : State} {m : MethodId} {args : Array Value} {below : List Frame} {meth : Method} {c : Code} {H : Heap} {locs : List Loc} {cells slots : Nat} {Q : State → Prop}
variable {pc : Nat} {ls : Array Slot} {rest : List Value} {D : va_G} {ar : Nat → ClassId} {κ : Nat → Nat} {A : Nat → Prop} {a : Nat} {H0 : Heap} {G : gW} {nz nL : Nat} {cc : ByteArray}
theorem m_6_110 : (Cond.methodLink RX14 1 objectInit) ∈ lwA := lwA_mk (ck_6 _ (List.mem_of_getElem? (i := 110) rfl)) rfl
theorem inA_RX14 : ∀ w ∈ u_ws RX14 TX14 2, w ∈ lwA := gA_r _ [1384, 1386] (by decide +kernel) (by decide +kernel)
theorem m_6_111 : (Cond.fieldLink RX14 7 "SendhouseModel$Value" "kind" "C") ∈ lwA := lwA_mk (ck_6 _ (List.mem_of_getElem? (i := 111) rfl)) rfl
theorem pf_RX14_7_18 {A9 : Nat → Prop} {H9 : Heap} {fs : List Value} {v : Value} (S : CallFix p m c cc nL s args lwA RX14) (hE : g_E D vwCl (gT ar) (EX1 κ) A9 s H9) (hin : meth.name = "<init>") (w : g_S D vwCl A H0 G H locs nz) (ha : G a = some (.inr (18, fs))) (hn : narrow .char v = v) (hfit : fits .char v = true) (hl : 0 < fs.length) {fs1 : List Value} (hfs : fs.set 0 v = fs1) (hdg : decode cc pc = .ok (.putfield 7, 3)) (kk : ∀ (H1 : Heap) (locs1 : List Loc), g_S D vwCl A H0 (g_up G a (.inr (18, fs1))) H1 locs1 nz → W p l e R s m args below meth c H1 locs1 cells slots Q (F0 m (pc + 3) ls rest)) : W p l e R s m args below meth c H locs cells slots Q (F0 m pc ls (v :: .ref a :: rest)) :=
  g_putF (ci := 18) (ty := .char) (C := RX14) (T := TX14) (N := 2) S.1 S.2.1 S.2.2.2.2 inA_RX14 tyX14 tyX14_ok nmX14 S.2.2.2.1 hE.1 w ha rfl 0 (by decide) (S.2.2.2.2 _ m_6_111) (fun _ h => h) rfl hin rfl (by decide +kernel) hn hfit hl hdg (fun H1 l1 w1 => kk H1 l1 (by rw [← hfs]; exact w1))
theorem m_6_113 : (Cond.fieldLink RX14 13 "SendhouseModel$Value" "number" "I") ∈ lwA := lwA_mk (ck_6 _ (List.mem_of_getElem? (i := 113) rfl)) rfl
theorem pf_RX14_13_18 {A9 : Nat → Prop} {H9 : Heap} {fs : List Value} {v : Value} (S : CallFix p m c cc nL s args lwA RX14) (hE : g_E D vwCl (gT ar) (EX1 κ) A9 s H9) (hin : meth.name = "<init>") (w : g_S D vwCl A H0 G H locs nz) (ha : G a = some (.inr (18, fs))) (hn : narrow .int v = v) (hfit : fits .int v = true) (hl : 1 < fs.length) {fs1 : List Value} (hfs : fs.set 1 v = fs1) (hdg : decode cc pc = .ok (.putfield 13, 3)) (kk : ∀ (H1 : Heap) (locs1 : List Loc), g_S D vwCl A H0 (g_up G a (.inr (18, fs1))) H1 locs1 nz → W p l e R s m args below meth c H1 locs1 cells slots Q (F0 m (pc + 3) ls rest)) : W p l e R s m args below meth c H locs cells slots Q (F0 m pc ls (v :: .ref a :: rest)) :=
  g_putF (ci := 18) (ty := .int) (C := RX14) (T := TX14) (N := 2) S.1 S.2.1 S.2.2.2.2 inA_RX14 tyX14 tyX14_ok nmX14 S.2.2.2.1 hE.1 w ha rfl 1 (by decide) (S.2.2.2.2 _ m_6_113) (fun _ h => h) rfl hin rfl (by decide +kernel) hn hfit hl hdg (fun H1 l1 w1 => kk H1 l1 (by rw [← hfs]; exact w1))
theorem m_6_128 : (Cond.methodLink RX10 3 objectInit) ∈ lwA := lwA_mk (ck_6 _ (List.mem_of_getElem? (i := 128) rfl)) rfl
theorem m_6_129 : (Cond.classLink RX10 9 "SendhouseModel$Method") ∈ lwA := lwA_mk (ck_6 _ (List.mem_of_getElem? (i := 129) rfl)) rfl
theorem inA_RX10 : ∀ w ∈ u_ws RX10 TX10 3, w ∈ lwA := gA_r _ [1406, 1408, 1410] (by decide +kernel) (by decide +kernel)
theorem m_6_135 : (Cond.fieldLink RX10 11 "SendhouseModel$Kind" "methods" "[LSendhouseModel$Method;") ∈ lwA := lwA_mk (ck_6 _ (List.mem_of_getElem? (i := 135) rfl)) rfl
theorem pf_RX10_11_14 {A9 : Nat → Prop} {H9 : Heap} {fs : List Value} {v : Value} (S : CallFix p m c cc nL s args lwA RX10) (hE : g_E D vwCl (gT ar) (EX1 κ) A9 s H9) (hin : meth.name = "<init>") (w : g_S D vwCl A H0 G H locs nz) (ha : G a = some (.inr (14, fs))) (hn : narrow (.array (.object "SendhouseModel$Method")) v = v) (hfit : fits (.array (.object "SendhouseModel$Method")) v = true) (hl : 2 < fs.length) {fs1 : List Value} (hfs : fs.set 2 v = fs1) (hdg : decode cc pc = .ok (.putfield 11, 3)) (kk : ∀ (H1 : Heap) (locs1 : List Loc), g_S D vwCl A H0 (g_up G a (.inr (14, fs1))) H1 locs1 nz → W p l e R s m args below meth c H1 locs1 cells slots Q (F0 m (pc + 3) ls rest)) : W p l e R s m args below meth c H locs cells slots Q (F0 m pc ls (v :: .ref a :: rest)) :=
  g_putF (ci := 14) (ty := (.array (.object "SendhouseModel$Method"))) (C := RX10) (T := TX10) (N := 3) S.1 S.2.1 S.2.2.2.2 inA_RX10 tyX10 tyX10_ok nmX10 S.2.2.2.1 hE.1 w ha rfl 2 (by decide) (S.2.2.2.2 _ m_6_135) (fun _ h => h) rfl hin rfl (by decide +kernel) hn hfit hl hdg (fun H1 l1 w1 => kk H1 l1 (by rw [← hfs]; exact w1))
theorem m_6_131 : (Cond.fieldLink RX10 17 "SendhouseModel$Kind" "above" "I") ∈ lwA := lwA_mk (ck_6 _ (List.mem_of_getElem? (i := 131) rfl)) rfl
theorem pf_RX10_17_14 {A9 : Nat → Prop} {H9 : Heap} {fs : List Value} {v : Value} (S : CallFix p m c cc nL s args lwA RX10) (hE : g_E D vwCl (gT ar) (EX1 κ) A9 s H9) (hin : meth.name = "<init>") (w : g_S D vwCl A H0 G H locs nz) (ha : G a = some (.inr (14, fs))) (hn : narrow .int v = v) (hfit : fits .int v = true) (hl : 0 < fs.length) {fs1 : List Value} (hfs : fs.set 0 v = fs1) (hdg : decode cc pc = .ok (.putfield 17, 3)) (kk : ∀ (H1 : Heap) (locs1 : List Loc), g_S D vwCl A H0 (g_up G a (.inr (14, fs1))) H1 locs1 nz → W p l e R s m args below meth c H1 locs1 cells slots Q (F0 m (pc + 3) ls rest)) : W p l e R s m args below meth c H locs cells slots Q (F0 m pc ls (v :: .ref a :: rest)) :=
  g_putF (ci := 14) (ty := .int) (C := RX10) (T := TX10) (N := 3) S.1 S.2.1 S.2.2.2.2 inA_RX10 tyX10 tyX10_ok nmX10 S.2.2.2.1 hE.1 w ha rfl 0 (by decide) (S.2.2.2.2 _ m_6_131) (fun _ h => h) rfl hin rfl (by decide +kernel) hn hfit hl hdg (fun H1 l1 w1 => kk H1 l1 (by rw [← hfs]; exact w1))
theorem m_6_133 : (Cond.fieldLink RX10 21 "SendhouseModel$Kind" "fields" "I") ∈ lwA := lwA_mk (ck_6 _ (List.mem_of_getElem? (i := 133) rfl)) rfl
theorem pf_RX10_21_14 {A9 : Nat → Prop} {H9 : Heap} {fs : List Value} {v : Value} (S : CallFix p m c cc nL s args lwA RX10) (hE : g_E D vwCl (gT ar) (EX1 κ) A9 s H9) (hin : meth.name = "<init>") (w : g_S D vwCl A H0 G H locs nz) (ha : G a = some (.inr (14, fs))) (hn : narrow .int v = v) (hfit : fits .int v = true) (hl : 1 < fs.length) {fs1 : List Value} (hfs : fs.set 1 v = fs1) (hdg : decode cc pc = .ok (.putfield 21, 3)) (kk : ∀ (H1 : Heap) (locs1 : List Loc), g_S D vwCl A H0 (g_up G a (.inr (14, fs1))) H1 locs1 nz → W p l e R s m args below meth c H1 locs1 cells slots Q (F0 m (pc + 3) ls rest)) : W p l e R s m args below meth c H locs cells slots Q (F0 m pc ls (v :: .ref a :: rest)) :=
  g_putF (ci := 14) (ty := .int) (C := RX10) (T := TX10) (N := 3) S.1 S.2.1 S.2.2.2.2 inA_RX10 tyX10 tyX10_ok nmX10 S.2.2.2.1 hE.1 w ha rfl 1 (by decide) (S.2.2.2.2 _ m_6_133) (fun _ h => h) rfl hin rfl (by decide +kernel) hn hfit hl hdg (fun H1 l1 w1 => kk H1 l1 (by rw [← hfs]; exact w1))
theorem m_6_104 : (Cond.methodLink RX15 1 objectInit) ∈ lwA := lwA_mk (ck_6 _ (List.mem_of_getElem? (i := 104) rfl)) rfl
theorem m_6_105 : (Cond.classLink RX15 7 RX14) ∈ lwA := lwA_mk (ck_6 _ (List.mem_of_getElem? (i := 105) rfl)) rfl
theorem m_6_106 : (Cond.instantiable RX14 2) ∈ lwA := lwA_mk (ck_6 _ (List.mem_of_getElem? (i := 106) rfl)) rfl
theorem m_1_13 : (Cond.initialized RX14) ∈ lwA := lwA_mk (ck_1 _ (List.mem_of_getElem? (i := 13) rfl)) rfl
theorem nw_RX15_7 {A9 : Nat → Prop} {H9 : Heap} (S : CallFix p m c cc nL s args lwA RX15) (hE : g_E D vwCl (gT ar) (EX1 κ) A9 s H9) (w : g_S D vwCl A H0 G H locs nz) (hcells : cells + 1 ≤ R.cells) (hslots : slots + 2 ≤ R.slots) (hdg : decode cc pc = .ok (.new 7, 3)) (kk : ∀ (H1 : Heap), g_S D vwCl A H0 (g_up G nz (.inr (18, [.int 0, .int 0]))) H1 locs (nz + 1) → W p l e R s m args below meth c H1 locs (cells + 1) (slots + 2) Q (F0 m (pc + 3) ls (.ref nz :: rest))) : W p l e R s m args below meth c H locs cells slots Q (F0 m pc ls rest) :=
  g_new (ci := 18) (fs := [.int 0, .int 0]) (C := RX14) (T := TX14) (N := 2) S.1 S.2.1 S.2.2.2.2 inA_RX14 tyX14 tyX14_ok S.2.2.2.1 (S.2.2.2.2 _ m_6_105) (S.2.2.2.2 _ m_6_106) (S.2.2.2.2 _ m_1_13) hE.1 w rfl (fun j hj => by rcases (show j = 0 ∨ j = 1 by omega) with rfl | rfl <;> rfl) hcells hslots hdg kk
theorem m_6_109 : (Cond.code yX14_init cX14_init 3 none) ∈ lwA := lwA_mk (ck_6 _ (List.mem_of_getElem? (i := 109) rfl)) rfl
theorem m_6_107 : (Cond.methodLink RX15 9 yX14_init) ∈ lwA := lwA_mk (ck_6 _ (List.mem_of_getElem? (i := 107) rfl)) rfl
theorem m_6_108 : (Cond.instanceMethod yX14_init) ∈ lwA := lwA_mk (ck_6 _ (List.mem_of_getElem? (i := 108) rfl)) rfl
theorem k_RX15_9 {args : Array Value} {s : State} {R rm : Room} (hts : ∀ w ∈ lwA, w.before args s = true) (hR : rm.frames + 1 ≤ R.frames ∧ 8 + (3 + 11) + rm.locals ≤ R.locals) : CallB R s args RX15 9 yX14_init cX14_init 3 none (lwC yX14_init cX14_init 3 none) rm rm.cells rm.slots 2 ∧ yX14_init.name = "<init>" ∧ (Cond.instanceMethod yX14_init).before args s = true := cwI 2 hts (gd m_6_109) rfl rfl rfl (hts _ m_1_13) (hts _ m_6_107) (hts _ m_6_108) rfl (by decide +kernel) hR
theorem inA_RX15 : ∀ w ∈ u_ws RX15 TX15 14, w ∈ lwA := gA_r _ [1428, 1430, 1432, 1434, 1436, 1438, 1440, 1442, 1444, 1446, 1448, 1450, 1452, 1454] (by decide +kernel) (by decide +kernel)
theorem m_6_145 : (Cond.fieldLink RX15 12 "SendhouseModel" "nothing" "LSendhouseModel$Value;") ∈ lwA := lwA_mk (ck_6 _ (List.mem_of_getElem? (i := 145) rfl)) rfl
theorem pf_RX15_12_19 {A9 : Nat → Prop} {H9 : Heap} {fs : List Value} {v : Value} (S : CallFix p m c cc nL s args lwA RX15) (hE : g_E D vwCl (gT ar) (EX1 κ) A9 s H9) (hin : meth.name = "<init>") (w : g_S D vwCl A H0 G H locs nz) (ha : G a = some (.inr (19, fs))) (hn : narrow (.object "SendhouseModel$Value") v = v) (hfit : fits (.object "SendhouseModel$Value") v = true) (hl : 0 < fs.length) {fs1 : List Value} (hfs : fs.set 0 v = fs1) (hdg : decode cc pc = .ok (.putfield 12, 3)) (kk : ∀ (H1 : Heap) (locs1 : List Loc), g_S D vwCl A H0 (g_up G a (.inr (19, fs1))) H1 locs1 nz → W p l e R s m args below meth c H1 locs1 cells slots Q (F0 m (pc + 3) ls rest)) : W p l e R s m args below meth c H locs cells slots Q (F0 m pc ls (v :: .ref a :: rest)) :=
  g_putF (ci := 19) (ty := (.object "SendhouseModel$Value")) (C := RX15) (T := TX15) (N := 14) S.1 S.2.1 S.2.2.2.2 inA_RX15 tyX15 tyX15_ok nmX15 S.2.2.2.1 hE.1 w ha rfl 0 (by decide) (S.2.2.2.2 _ m_6_145) (fun _ h => h) rfl hin rfl (by decide +kernel) hn hfit hl hdg (fun H1 l1 w1 => kk H1 l1 (by rw [← hfs]; exact w1))
theorem m_6_120 : (Cond.classLink RX15 18 RJx4a65c) ∈ lwA := lwA_mk (ck_6 _ (List.mem_of_getElem? (i := 120) rfl)) rfl
theorem nw_RX15_18 {A9 : Nat → Prop} {H9 : Heap} (S : CallFix p m c cc nL s args lwA RX15) (hE : g_E D vwCl (gT ar) (EX1 κ) A9 s H9) (w : g_S D vwCl A H0 G H locs nz) (hcells : cells + 1 ≤ R.cells) (hslots : slots + 3 ≤ R.slots) (hdg : decode cc pc = .ok (.new 18, 3)) (kk : ∀ (H1 : Heap), g_S D vwCl A H0 (g_up G nz (.inr (3, [.int 0, .null, .int 0]))) H1 locs (nz + 1) → W p l e R s m args below meth c H1 locs (cells + 1) (slots + 3) Q (F0 m (pc + 3) ls (.ref nz :: rest))) : W p l e R s m args below meth c H locs cells slots Q (F0 m pc ls rest) :=
  g_new (ci := 3) (fs := [.int 0, .null, .int 0]) (C := RJx4a65c) (T := TJx4a65c) (N := 3) S.1 S.2.1 S.2.2.2.2 inA_RJx4a65c tyJx4a65c tyJx4a65c_ok S.2.2.2.1 (S.2.2.2.2 _ m_6_120) (S.2.2.2.2 _ m_1_166) (S.2.2.2.2 _ m_1_9) hE.1 w rfl (fun j hj => by rcases (show j = 0 ∨ j = 1 ∨ j = 2 by omega) with rfl | rfl | rfl <;> rfl) hcells hslots hdg kk
theorem m_6_121 : (Cond.methodLink RX15 20 yJx4a65c_init_da8c8) ∈ lwA := lwA_mk (ck_6 _ (List.mem_of_getElem? (i := 121) rfl)) rfl
theorem k_RX15_20 {args : Array Value} {s : State} {R rm : Room} (hts : ∀ w ∈ lwA, w.before args s = true) (hR : rm.frames + 1 ≤ R.frames ∧ 8 + (1 + 11) + rm.locals ≤ R.locals) : CallB R s args RX15 20 yJx4a65c_init_da8c8 cJx4a65c_init_da8c8 1 none (lwC yJx4a65c_init_da8c8 cJx4a65c_init_da8c8 1 none) rm rm.cells rm.slots 0 ∧ yJx4a65c_init_da8c8.name = "<init>" ∧ (Cond.instanceMethod yJx4a65c_init_da8c8).before args s = true := cwI 0 hts (gd m_1_169) rfl rfl rfl (hts _ m_1_9) (hts _ m_6_121) (hts _ m_1_168) rfl (by decide +kernel) hR
theorem m_6_146 : (Cond.fieldLink RX15 21 "SendhouseModel" "classes" "Ljava/util/ArrayList;") ∈ lwA := lwA_mk (ck_6 _ (List.mem_of_getElem? (i := 146) rfl)) rfl
theorem pf_RX15_21_19 {A9 : Nat → Prop} {H9 : Heap} {fs : List Value} {v : Value} (S : CallFix p m c cc nL s args lwA RX15) (hE : g_E D vwCl (gT ar) (EX1 κ) A9 s H9) (hin : meth.name = "<init>") (w : g_S D vwCl A H0 G H locs nz) (ha : G a = some (.inr (19, fs))) (hn : narrow (.object "java/util/ArrayList") v = v) (hfit : fits (.object "java/util/ArrayList") v = true) (hl : 1 < fs.length) {fs1 : List Value} (hfs : fs.set 1 v = fs1) (hdg : decode cc pc = .ok (.putfield 21, 3)) (kk : ∀ (H1 : Heap) (locs1 : List Loc), g_S D vwCl A H0 (g_up G a (.inr (19, fs1))) H1 locs1 nz → W p l e R s m args below meth c H1 locs1 cells slots Q (F0 m (pc + 3) ls rest)) : W p l e R s m args below meth c H locs cells slots Q (F0 m pc ls (v :: .ref a :: rest)) :=
  g_putF (ci := 19) (ty := (.object "java/util/ArrayList")) (C := RX15) (T := TX15) (N := 14) S.1 S.2.1 S.2.2.2.2 inA_RX15 tyX15 tyX15_ok nmX15 S.2.2.2.1 hE.1 w ha rfl 1 (by decide) (S.2.2.2.2 _ m_6_146) (fun _ h => h) rfl hin rfl (by decide +kernel) hn hfit hl hdg (fun H1 l1 w1 => kk H1 l1 (by rw [← hfs]; exact w1))
theorem m_6_147 : (Cond.fieldLink RX15 25 "SendhouseModel" "typed" "Ljava/util/ArrayList;") ∈ lwA := lwA_mk (ck_6 _ (List.mem_of_getElem? (i := 147) rfl)) rfl
theorem pf_RX15_25_19 {A9 : Nat → Prop} {H9 : Heap} {fs : List Value} {v : Value} (S : CallFix p m c cc nL s args lwA RX15) (hE : g_E D vwCl (gT ar) (EX1 κ) A9 s H9) (hin : meth.name = "<init>") (w : g_S D vwCl A H0 G H locs nz) (ha : G a = some (.inr (19, fs))) (hn : narrow (.object "java/util/ArrayList") v = v) (hfit : fits (.object "java/util/ArrayList") v = true) (hl : 2 < fs.length) {fs1 : List Value} (hfs : fs.set 2 v = fs1) (hdg : decode cc pc = .ok (.putfield 25, 3)) (kk : ∀ (H1 : Heap) (locs1 : List Loc), g_S D vwCl A H0 (g_up G a (.inr (19, fs1))) H1 locs1 nz → W p l e R s m args below meth c H1 locs1 cells slots Q (F0 m (pc + 3) ls rest)) : W p l e R s m args below meth c H locs cells slots Q (F0 m pc ls (v :: .ref a :: rest)) :=
  g_putF (ci := 19) (ty := (.object "java/util/ArrayList")) (C := RX15) (T := TX15) (N := 14) S.1 S.2.1 S.2.2.2.2 inA_RX15 tyX15 tyX15_ok nmX15 S.2.2.2.1 hE.1 w ha rfl 2 (by decide) (S.2.2.2.2 _ m_6_147) (fun _ h => h) rfl hin rfl (by decide +kernel) hn hfit hl hdg (fun H1 l1 w1 => kk H1 l1 (by rw [← hfs]; exact w1))
theorem m_6_148 : (Cond.fieldLink RX15 28 "SendhouseModel" "things" "Ljava/util/ArrayList;") ∈ lwA := lwA_mk (ck_6 _ (List.mem_of_getElem? (i := 148) rfl)) rfl
theorem pf_RX15_28_19 {A9 : Nat → Prop} {H9 : Heap} {fs : List Value} {v : Value} (S : CallFix p m c cc nL s args lwA RX15) (hE : g_E D vwCl (gT ar) (EX1 κ) A9 s H9) (hin : meth.name = "<init>") (w : g_S D vwCl A H0 G H locs nz) (ha : G a = some (.inr (19, fs))) (hn : narrow (.object "java/util/ArrayList") v = v) (hfit : fits (.object "java/util/ArrayList") v = true) (hl : 3 < fs.length) {fs1 : List Value} (hfs : fs.set 3 v = fs1) (hdg : decode cc pc = .ok (.putfield 28, 3)) (kk : ∀ (H1 : Heap) (locs1 : List Loc), g_S D vwCl A H0 (g_up G a (.inr (19, fs1))) H1 locs1 nz → W p l e R s m args below meth c H1 locs1 cells slots Q (F0 m (pc + 3) ls rest)) : W p l e R s m args below meth c H locs cells slots Q (F0 m pc ls (v :: .ref a :: rest)) :=
  g_putF (ci := 19) (ty := (.object "java/util/ArrayList")) (C := RX15) (T := TX15) (N := 14) S.1 S.2.1 S.2.2.2.2 inA_RX15 tyX15 tyX15_ok nmX15 S.2.2.2.1 hE.1 w ha rfl 3 (by decide) (S.2.2.2.2 _ m_6_148) (fun _ h => h) rfl hin rfl (by decide +kernel) hn hfit hl hdg (fun H1 l1 w1 => kk H1 l1 (by rw [← hfs]; exact w1))
theorem m_6_149 : (Cond.fieldLink RX15 31 "SendhouseModel" "frames" "Ljava/util/ArrayList;") ∈ lwA := lwA_mk (ck_6 _ (List.mem_of_getElem? (i := 149) rfl)) rfl
theorem pf_RX15_31_19 {A9 : Nat → Prop} {H9 : Heap} {fs : List Value} {v : Value} (S : CallFix p m c cc nL s args lwA RX15) (hE : g_E D vwCl (gT ar) (EX1 κ) A9 s H9) (hin : meth.name = "<init>") (w : g_S D vwCl A H0 G H locs nz) (ha : G a = some (.inr (19, fs))) (hn : narrow (.object "java/util/ArrayList") v = v) (hfit : fits (.object "java/util/ArrayList") v = true) (hl : 4 < fs.length) {fs1 : List Value} (hfs : fs.set 4 v = fs1) (hdg : decode cc pc = .ok (.putfield 31, 3)) (kk : ∀ (H1 : Heap) (locs1 : List Loc), g_S D vwCl A H0 (g_up G a (.inr (19, fs1))) H1 locs1 nz → W p l e R s m args below meth c H1 locs1 cells slots Q (F0 m (pc + 3) ls rest)) : W p l e R s m args below meth c H locs cells slots Q (F0 m pc ls (v :: .ref a :: rest)) :=
  g_putF (ci := 19) (ty := (.object "java/util/ArrayList")) (C := RX15) (T := TX15) (N := 14) S.1 S.2.1 S.2.2.2.2 inA_RX15 tyX15 tyX15_ok nmX15 S.2.2.2.1 hE.1 w ha rfl 4 (by decide) (S.2.2.2.2 _ m_6_149) (fun _ h => h) rfl hin rfl (by decide +kernel) hn hfit hl hdg (fun H1 l1 w1 => kk H1 l1 (by rw [← hfs]; exact w1))
theorem m_6_150 : (Cond.fieldLink RX15 34 "SendhouseModel" "written" "Ljava/util/ArrayList;") ∈ lwA := lwA_mk (ck_6 _ (List.mem_of_getElem? (i := 150) rfl)) rfl
theorem pf_RX15_34_19 {A9 : Nat → Prop} {H9 : Heap} {fs : List Value} {v : Value} (S : CallFix p m c cc nL s args lwA RX15) (hE : g_E D vwCl (gT ar) (EX1 κ) A9 s H9) (hin : meth.name = "<init>") (w : g_S D vwCl A H0 G H locs nz) (ha : G a = some (.inr (19, fs))) (hn : narrow (.object "java/util/ArrayList") v = v) (hfit : fits (.object "java/util/ArrayList") v = true) (hl : 5 < fs.length) {fs1 : List Value} (hfs : fs.set 5 v = fs1) (hdg : decode cc pc = .ok (.putfield 34, 3)) (kk : ∀ (H1 : Heap) (locs1 : List Loc), g_S D vwCl A H0 (g_up G a (.inr (19, fs1))) H1 locs1 nz → W p l e R s m args below meth c H1 locs1 cells slots Q (F0 m (pc + 3) ls rest)) : W p l e R s m args below meth c H locs cells slots Q (F0 m pc ls (v :: .ref a :: rest)) :=
  g_putF (ci := 19) (ty := (.object "java/util/ArrayList")) (C := RX15) (T := TX15) (N := 14) S.1 S.2.1 S.2.2.2.2 inA_RX15 tyX15 tyX15_ok nmX15 S.2.2.2.1 hE.1 w ha rfl 5 (by decide) (S.2.2.2.2 _ m_6_150) (fun _ h => h) rfl hin rfl (by decide +kernel) hn hfit hl hdg (fun H1 l1 w1 => kk H1 l1 (by rw [← hfs]; exact w1))
theorem m_6_151 : (Cond.fieldLink RX15 37 "SendhouseModel" "globals" "[LSendhouseModel$Value;") ∈ lwA := lwA_mk (ck_6 _ (List.mem_of_getElem? (i := 151) rfl)) rfl
theorem pf_RX15_37_19 {A9 : Nat → Prop} {H9 : Heap} {fs : List Value} {v : Value} (S : CallFix p m c cc nL s args lwA RX15) (hE : g_E D vwCl (gT ar) (EX1 κ) A9 s H9) (hin : meth.name = "<init>") (w : g_S D vwCl A H0 G H locs nz) (ha : G a = some (.inr (19, fs))) (hn : narrow (.array (.object "SendhouseModel$Value")) v = v) (hfit : fits (.array (.object "SendhouseModel$Value")) v = true) (hl : 6 < fs.length) {fs1 : List Value} (hfs : fs.set 6 v = fs1) (hdg : decode cc pc = .ok (.putfield 37, 3)) (kk : ∀ (H1 : Heap) (locs1 : List Loc), g_S D vwCl A H0 (g_up G a (.inr (19, fs1))) H1 locs1 nz → W p l e R s m args below meth c H1 locs1 cells slots Q (F0 m (pc + 3) ls rest)) : W p l e R s m args below meth c H locs cells slots Q (F0 m pc ls (v :: .ref a :: rest)) :=
  g_putF (ci := 19) (ty := (.array (.object "SendhouseModel$Value"))) (C := RX15) (T := TX15) (N := 14) S.1 S.2.1 S.2.2.2.2 inA_RX15 tyX15 tyX15_ok nmX15 S.2.2.2.1 hE.1 w ha rfl 6 (by decide) (S.2.2.2.2 _ m_6_151) (fun _ h => h) rfl hin rfl (by decide +kernel) hn hfit hl hdg (fun H1 l1 w1 => kk H1 l1 (by rw [← hfs]; exact w1))
theorem m_6_156 : (Cond.fieldLink RX15 41 "SendhouseModel" "state" "C") ∈ lwA := lwA_mk (ck_6 _ (List.mem_of_getElem? (i := 156) rfl)) rfl
theorem pf_RX15_41_19 {A9 : Nat → Prop} {H9 : Heap} {fs : List Value} {v : Value} (S : CallFix p m c cc nL s args lwA RX15) (hE : g_E D vwCl (gT ar) (EX1 κ) A9 s H9) (w : g_S D vwCl A H0 G H locs nz) (ha : G a = some (.inr (19, fs))) (hn : narrow .char v = v) (hfit : fits .char v = true) (hl : 11 < fs.length) {fs1 : List Value} (hfs : fs.set 11 v = fs1) (hdg : decode cc pc = .ok (.putfield 41, 3)) (kk : ∀ (H1 : Heap) (locs1 : List Loc), g_S D vwCl A H0 (g_up G a (.inr (19, fs1))) H1 locs1 nz → W p l e R s m args below meth c H1 locs1 cells slots Q (F0 m (pc + 3) ls rest)) : W p l e R s m args below meth c H locs cells slots Q (F0 m pc ls (v :: .ref a :: rest)) :=
  g_put (ci := 19) (ty := .char) (C := RX15) (T := TX15) (N := 14) S.1 S.2.1 S.2.2.2.2 inA_RX15 tyX15 tyX15_ok nmX15 S.2.2.2.1 hE.1 w ha rfl 11 (by decide) (S.2.2.2.2 _ m_6_156) (fun _ h => h) rfl (by decide +kernel) hn hfit hl hdg (fun H1 l1 w1 => kk H1 l1 (by rw [← hfs]; exact w1))
theorem gf_RX15_37_19 {A9 : Nat → Prop} {H9 : Heap} {fs : List Value} {v : Value} (S : CallFix p m c cc nL s args lwA RX15) (hE : g_E D vwCl (gT ar) (EX1 κ) A9 s H9) (w : g_S D vwCl A H0 G H locs nz) (ha : G a = some (.inr (19, fs))) (hv : fs[6]? = some v) (hdg : decode cc pc = .ok (.getfield 37, 3)) (kk : W p l e R s m args below meth c H locs cells slots Q (F0 m (pc + 3) ls (v :: rest))) : W p l e R s m args below meth c H locs cells slots Q (F0 m pc ls (.ref a :: rest)) :=
  va_get (ci := 19) (C := RX15) (T := TX15) (N := 14) S.1 S.2.1 S.2.2.2.2 inA_RX15 S.2.2.2.1 hE.1 (g_1 w.1 ha) 0 rfl rfl 6 (by decide) (S.2.2.2.2 _ m_6_151) (fun _ h => h) hv hdg kk
theorem gf_RX15_12_19 {A9 : Nat → Prop} {H9 : Heap} {fs : List Value} {v : Value} (S : CallFix p m c cc nL s args lwA RX15) (hE : g_E D vwCl (gT ar) (EX1 κ) A9 s H9) (w : g_S D vwCl A H0 G H locs nz) (ha : G a = some (.inr (19, fs))) (hv : fs[0]? = some v) (hdg : decode cc pc = .ok (.getfield 12, 3)) (kk : W p l e R s m args below meth c H locs cells slots Q (F0 m (pc + 3) ls (v :: rest))) : W p l e R s m args below meth c H locs cells slots Q (F0 m pc ls (.ref a :: rest)) :=
  va_get (ci := 19) (C := RX15) (T := TX15) (N := 14) S.1 S.2.1 S.2.2.2.2 inA_RX15 S.2.2.2.1 hE.1 (g_1 w.1 ha) 0 rfl rfl 0 (by decide) (S.2.2.2.2 _ m_6_145) (fun _ h => h) hv hdg kk
theorem gf_RX15_21_19 {A9 : Nat → Prop} {H9 : Heap} {fs : List Value} {v : Value} (S : CallFix p m c cc nL s args lwA RX15) (hE : g_E D vwCl (gT ar) (EX1 κ) A9 s H9) (w : g_S D vwCl A H0 G H locs nz) (ha : G a = some (.inr (19, fs))) (hv : fs[1]? = some v) (hdg : decode cc pc = .ok (.getfield 21, 3)) (kk : W p l e R s m args below meth c H locs cells slots Q (F0 m (pc + 3) ls (v :: rest))) : W p l e R s m args below meth c H locs cells slots Q (F0 m pc ls (.ref a :: rest)) :=
  va_get (ci := 19) (C := RX15) (T := TX15) (N := 14) S.1 S.2.1 S.2.2.2.2 inA_RX15 S.2.2.2.1 hE.1 (g_1 w.1 ha) 0 rfl rfl 1 (by decide) (S.2.2.2.2 _ m_6_146) (fun _ h => h) hv hdg kk
theorem m_6_123 : (Cond.classLink RX15 45 RX10) ∈ lwA := lwA_mk (ck_6 _ (List.mem_of_getElem? (i := 123) rfl)) rfl
theorem m_6_124 : (Cond.instantiable RX10 3) ∈ lwA := lwA_mk (ck_6 _ (List.mem_of_getElem? (i := 124) rfl)) rfl
theorem m_1_14 : (Cond.initialized RX10) ∈ lwA := lwA_mk (ck_1 _ (List.mem_of_getElem? (i := 14) rfl)) rfl
theorem nw_RX15_45 {A9 : Nat → Prop} {H9 : Heap} (S : CallFix p m c cc nL s args lwA RX15) (hE : g_E D vwCl (gT ar) (EX1 κ) A9 s H9) (w : g_S D vwCl A H0 G H locs nz) (hcells : cells + 1 ≤ R.cells) (hslots : slots + 3 ≤ R.slots) (hdg : decode cc pc = .ok (.new 45, 3)) (kk : ∀ (H1 : Heap), g_S D vwCl A H0 (g_up G nz (.inr (14, [.int 0, .int 0, .null]))) H1 locs (nz + 1) → W p l e R s m args below meth c H1 locs (cells + 1) (slots + 3) Q (F0 m (pc + 3) ls (.ref nz :: rest))) : W p l e R s m args below meth c H locs cells slots Q (F0 m pc ls rest) :=
  g_new (ci := 14) (fs := [.int 0, .int 0, .null]) (C := RX10) (T := TX10) (N := 3) S.1 S.2.1 S.2.2.2.2 inA_RX10 tyX10 tyX10_ok S.2.2.2.1 (S.2.2.2.2 _ m_6_123) (S.2.2.2.2 _ m_6_124) (S.2.2.2.2 _ m_1_14) hE.1 w rfl (fun j hj => by rcases (show j = 0 ∨ j = 1 ∨ j = 2 by omega) with rfl | rfl | rfl <;> rfl) hcells hslots hdg kk
theorem m_6_127 : (Cond.code yX10_init cX10_init 3 none) ∈ lwA := lwA_mk (ck_6 _ (List.mem_of_getElem? (i := 127) rfl)) rfl
theorem m_6_125 : (Cond.methodLink RX15 47 yX10_init) ∈ lwA := lwA_mk (ck_6 _ (List.mem_of_getElem? (i := 125) rfl)) rfl
theorem m_6_126 : (Cond.instanceMethod yX10_init) ∈ lwA := lwA_mk (ck_6 _ (List.mem_of_getElem? (i := 126) rfl)) rfl
theorem k_RX15_47 {args : Array Value} {s : State} {R rm : Room} (hts : ∀ w ∈ lwA, w.before args s = true) (hR : rm.frames + 1 ≤ R.frames ∧ 8 + (3 + 11) + rm.locals ≤ R.locals) : CallB R s args RX15 47 yX10_init cX10_init 3 none (lwC yX10_init cX10_init 3 none) rm rm.cells rm.slots 2 ∧ yX10_init.name = "<init>" ∧ (Cond.instanceMethod yX10_init).before args s = true := cwI 2 hts (gd m_6_127) rfl rfl rfl (hts _ m_1_14) (hts _ m_6_125) (hts _ m_6_126) rfl (by decide +kernel) hR
theorem m_5_116 : (Cond.code yJx4a65c_add_9ea2d cJx4a65c_add_9ea2d 2 (some .boolean)) ∈ lwA := lwA_mk (ck_5 _ (List.mem_of_getElem? (i := 116) rfl)) rfl
theorem m_6_144 : (Cond.methodLink RX15 50 yJx4a65c_add_9ea2d) ∈ lwA := lwA_mk (ck_6 _ (List.mem_of_getElem? (i := 144) rfl)) rfl
theorem m_5_114 : (Cond.instanceMethod yJx4a65c_add_9ea2d) ∈ lwA := lwA_mk (ck_5 _ (List.mem_of_getElem? (i := 114) rfl)) rfl
theorem m_5_115 : (Cond.selects RJx4a65c yJx4a65c_add_9ea2d yJx4a65c_add_9ea2d) ∈ lwA := lwA_mk (ck_5 _ (List.mem_of_getElem? (i := 115) rfl)) rfl
theorem k_RX15_50 {args : Array Value} {s : State} {R rm : Room} (hts : ∀ w ∈ lwA, w.before args s = true) (hR : rm.frames + 1 ≤ R.frames ∧ 8 + (2 + 11) + rm.locals ≤ R.locals) : CallW R s args RX15 RJx4a65c 50 yJx4a65c_add_9ea2d cJx4a65c_add_9ea2d 2 (some .boolean) (lwC yJx4a65c_add_9ea2d cJx4a65c_add_9ea2d 2 (some .boolean)) rm rm.cells rm.slots 1 := cwV 1 hts (gdV m_6_144 m_5_114 m_5_115 m_1_9 m_5_116) rfl rfl rfl (by decide +kernel) hR
end SITES
set_option maxHeartbeats 4000000 in
set_option maxRecDepth 100000 in
theorem c_X14_init (l : Launch) (D : va_G) (ar : Nat → ClassId) (κ : Nat → Nat) (G : gW) (sz : Nat) (o : Nat) (k : Int32) (n : Int32) (ho : G o = some (.inr (18, [.int 0, .int 0]))) (hk : narrow .char (.int k) = .int k) : Met l yX14_init (lwC yX14_init cX14_init 3 none) (rD 2 0 0) (g_Pc D vwCl (gT ar) (EX1 κ) G sz [.ref o, .int k, .int n]) (g_Qv D vwCl (g_A G sz) (fun u => u = ((g_up G o (.inr (18, [.int k, .int n]))), sz))) 0 0 (g_A G sz) := by
  refine g_ofW (by decide +kernel) (Nat.le_of_ble_eq_true rfl) ?_
  intro p e s m below meth c ls S hr hlk hin hE w hl
  have hx := S.1
  have hb := S.2.1
  have hl : lv_has ls 3 [(0, .ref o), (1, .int k), (2, .int n)] := hl
  have lt_ho : o < sz := g_ltn w ho
  refine lv_aload_n hx hb dX14_init_0 rfl (lv_at hl 0 rfl) ?_
  refine W.objInit hx hb S.2.2.2.1 (S.2.2.2.2 _ m_6_110) (S.2.2.2.2 _ m_1_47) (S.2.2.2.2 _ m_obj) rfl (by rw [S.2.2.1]; exact hl.1) rfl dX14_init_1 (Nat.le_of_ble_eq_true rfl) (Nat.le_of_ble_eq_true rfl) ?_
  refine W.eq (g2 := F0 m 4 ls []) rfl ?_
  refine lv_aload_n hx hb dX14_init_4 rfl (lv_at hl 0 rfl) ?_
  refine lv_iload_n hx hb dX14_init_5 rfl (lv_at hl 1 rfl) ?_
  refine pf_RX14_7_18 (fs1 := [.int k, .int 0]) S hE hin w ho hk (by rw [← hk]; exact fits_narrow_char k) (Nat.le_of_ble_eq_true rfl) rfl dX14_init_6 (fun H locs w => ?_)
  refine lv_aload_n hx hb dX14_init_9 rfl (lv_at hl 0 rfl) ?_
  refine lv_iload_n hx hb dX14_init_10 rfl (lv_at hl 2 rfl) ?_
  refine pf_RX14_13_18 (fs1 := [.int k, .int n]) S hE hin w g_up_s rfl rfl (Nat.le_of_ble_eq_true rfl) rfl dX14_init_11 (fun H locs w => ?_)
  have w := g_eqw w g_over
  exact g_vret hx hb hr hlk w (Nat.le_of_ble_eq_true rfl) (Nat.le_of_ble_eq_true rfl) dX14_init_14 rfl
set_option maxHeartbeats 4000000 in
set_option maxRecDepth 100000 in
theorem c_X10_init (l : Launch) (D : va_G) (ar : Nat → ClassId) (κ : Nat → Nat) (G : gW) (sz : Nat) (o : Nat) (a : Int32) (n : Int32) (ho : G o = some (.inr (14, [.int 0, .int 0, .null]))) : Met l yX10_init (lwC yX10_init cX10_init 3 none) (rD 2 1 16) (g_Pc D vwCl (gT ar) (EX1 κ) G sz [.ref o, .int a, .int n]) (g_Qv D vwCl (g_A G sz) (fun u => u = ((g_up (g_up G sz (.inl (ar 9, 16, .inr (.inr (.inr (.inr (fun _ => none))))))) o (.inr (14, [.int a, .int n, .ref sz]))), sz + 1))) 1 16 (g_A G sz) := by
  refine g_ofW (by decide +kernel) (Nat.le_of_ble_eq_true rfl) ?_
  intro p e s m below meth c ls S hr hlk hin hE w hl
  have hx := S.1
  have hb := S.2.1
  have hl : lv_has ls 3 [(0, .ref o), (1, .int a), (2, .int n)] := hl
  have lt_ho : o < sz := g_ltn w ho
  refine lv_aload_n hx hb dX10_init_0 rfl (lv_at hl 0 rfl) ?_
  refine W.objInit hx hb S.2.2.2.1 (S.2.2.2.2 _ m_6_128) (S.2.2.2.2 _ m_1_47) (S.2.2.2.2 _ m_obj) rfl (by rw [S.2.2.1]; exact hl.1) rfl dX10_init_1 (Nat.le_of_ble_eq_true rfl) (Nat.le_of_ble_eq_true rfl) ?_
  refine W.eq (g2 := F0 m 4 ls []) rfl ?_
  refine lv_aload_n hx hb dX10_init_4 rfl (lv_at hl 0 rfl) ?_
  refine lv_bipush (v := 16) hx hb dX10_init_5 (by decide) ?_
  refine g_newq (N' := 16) hx hb S.2.2.2.1 (S.2.2.2.2 _ m_6_129) (va_AO.use (C := "SendhouseModel$Method") (hE.2.1.1 _ (ckN_1 _ (List.mem_of_getElem? (i := 36) rfl)))) hE.1 w 9 rfl (by decide) rfl (Nat.le_of_ble_eq_true rfl) (Nat.le_of_ble_eq_true rfl) (Nat.le_of_ble_eq_true rfl) dX10_init_7 (fun H w => ?_)
  refine pf_RX10_11_14 (fs1 := [.int 0, .int 0, .ref sz]) S hE hin w (g_up_o (by omega) ho) rfl rfl (Nat.le_of_ble_eq_true rfl) rfl dX10_init_10 (fun H locs w => ?_)
  refine lv_aload_n hx hb dX10_init_13 rfl (lv_at hl 0 rfl) ?_
  refine lv_iload_n hx hb dX10_init_14 rfl (lv_at hl 1 rfl) ?_
  refine pf_RX10_17_14 (fs1 := [.int a, .int 0, .ref sz]) S hE hin w g_up_s rfl rfl (Nat.le_of_ble_eq_true rfl) rfl dX10_init_15 (fun H locs w => ?_)
  have w := g_eqw w g_over
  refine lv_aload_n hx hb dX10_init_18 rfl (lv_at hl 0 rfl) ?_
  refine lv_iload_n hx hb dX10_init_19 rfl (lv_at hl 2 rfl) ?_
  refine pf_RX10_21_14 (fs1 := [.int a, .int n, .ref sz]) S hE hin w g_up_s rfl rfl (Nat.le_of_ble_eq_true rfl) rfl dX10_init_20 (fun H locs w => ?_)
  have w := g_eqw w g_over
  exact g_vret hx hb hr hlk w (Nat.le_of_ble_eq_true rfl) (Nat.le_of_ble_eq_true rfl) dX10_init_23 rfl
set_option maxHeartbeats 4000000 in
set_option maxRecDepth 100000 in
theorem c_X15_init (l : Launch) (D : va_G) (ar : Nat → ClassId) (κ : Nat → Nat) (G : gW) (sz : Nat) (y : Nat) (hy : G y = some (.inr (19, [.null, .null, .null, .null, .null, .null, .null, .int 0, .int 0, .int 0, .int 0, .int 0, .int 0, .null]))) : Met l yX15_init (lwC yX15_init cX15_init 2 none) (rD 7 14 92) (g_Pc D vwCl (gT ar) (EX1 κ) G sz [.ref y]) (g_Qv D vwCl (g_A G sz) (fun u => u = ((g_up (g_up (g_up (g_up (g_up (g_up (g_up (g_up (g_up (g_up (g_up (g_up (g_up (g_up (g_up G sz (.inr (18, [.int 117, .int 0]))) y (.inr (19, [.ref sz, .ref (sz + 1), .ref (sz + 2), .ref (sz + 3), .ref (sz + 4), .ref (sz + 5), .ref (sz + 6), .int 0, .int 0, .int 0, .int 0, .int 45, .int 0, .null]))) (sz + 1) (.inr (3, [.int 3, .ref (sz + 9), .int 3]))) (sz + 2) (.inr (3, [.int 0, .ref (κ 0), .int 0]))) (sz + 3) (.inr (3, [.int 0, .ref (κ 0), .int 0]))) (sz + 4) (.inr (3, [.int 0, .ref (κ 0), .int 0]))) (sz + 5) (.inr (3, [.int 0, .ref (κ 0), .int 0]))) (sz + 6) (.inl (ar 10, 8, .inr (.inr (.inr (.inr (va_up (va_up (va_up (va_up (va_up (va_up (va_up (va_up (fun _ => none) (Int32.toNatClampNeg 0) (some sz)) (Int32.toNatClampNeg 1) (some sz)) (Int32.toNatClampNeg 2) (some sz)) (Int32.toNatClampNeg 3) (some sz)) (Int32.toNatClampNeg 4) (some sz)) (Int32.toNatClampNeg 5) (some sz)) (Int32.toNatClampNeg 6) (some sz)) (Int32.toNatClampNeg 7) (some sz)))))))) (sz + 7) (.inr (14, [.int (-1), .int 0, .ref (sz + 8)]))) (sz + 8) (.inl (ar 9, 16, .inr (.inr (.inr (.inr (fun _ => none))))))) (sz + 9) (.inl (ar 11, 10, .inr (.inr (.inr (.inr (va_up (va_up (va_up (fun _ => none) (Int32.toNatClampNeg 0) (some (sz + 7))) (Int32.toNatClampNeg 1) (some (sz + 10))) (Int32.toNatClampNeg 2) (some (sz + 12))))))))) (sz + 10) (.inr (14, [.int 0, .int 0, .ref (sz + 11)]))) (sz + 11) (.inl (ar 9, 16, .inr (.inr (.inr (.inr (fun _ => none))))))) (sz + 12) (.inr (14, [.int 0, .int 0, .ref (sz + 13)]))) (sz + 13) (.inl (ar 9, 16, .inr (.inr (.inr (.inr (fun _ => none))))))), sz + 14))) 14 92 (g_A G sz) := by
  refine g_ofW (by decide +kernel) (Nat.le_of_ble_eq_true rfl) ?_
  intro p e s m below meth c ls S hr hlk hin hE w hl
  have hx := S.1
  have hb := S.2.1
  have hl : lv_has ls 2 [(0, .ref y)] := hl
  have lt_hy : y < sz := g_ltn w hy
  refine lv_aload_n hx hb dX15_init_0 rfl (lv_at hl 0 rfl) ?_
  refine W.objInit hx hb S.2.2.2.1 (S.2.2.2.2 _ m_6_104) (S.2.2.2.2 _ m_1_47) (S.2.2.2.2 _ m_obj) rfl (by rw [S.2.2.1]; exact hl.1) rfl dX15_init_1 (Nat.le_of_ble_eq_true rfl) (Nat.le_of_ble_eq_true rfl) ?_
  refine W.eq (g2 := F0 m 4 ls []) rfl ?_
  refine lv_aload_n hx hb dX15_init_4 rfl (lv_at hl 0 rfl) ?_
  refine nw_RX15_7 S hE w (Nat.le_of_ble_eq_true rfl) (Nat.le_of_ble_eq_true rfl) dX15_init_5 (fun H w => ?_)
  refine lv_dup hx hb dX15_init_8 rfl ?_
  refine lv_bipush (v := 117) hx hb dX15_init_9 (by decide) ?_
  refine lv_iconst (v := 0) hx hb dX15_init_11 (by decide) ?_
  refine g_callv w (g_runI (As := [.int 117, .int 0]) (rest := [.ref sz, .ref y]) S hE w hl (c_X14_init l D ar κ (g_up G sz (.inr (18, [.int 0, .int 0]))) (sz + 1) sz 117 0 g_up_s (by decide +kernel)) (k_RX15_9 S.2.2.2.2 ⟨Nat.le_of_ble_eq_true rfl, Nat.le_of_ble_eq_true rfl⟩) rfl rfl (Nat.le_of_ble_eq_true rfl) dX15_init_12 ⟨Nat.le_of_ble_eq_true rfl, Nat.le_of_ble_eq_true rfl⟩) (fun u H locs hp hnz w => ?_)
  obtain rfl := hp
  dsimp only at w
  have w := g_eqw w g_over
  refine pf_RX15_12_19 (fs1 := [.ref sz, .null, .null, .null, .null, .null, .null, .int 0, .int 0, .int 0, .int 0, .int 0, .int 0, .null]) S hE hin w (g_up_o (by omega) hy) rfl rfl (Nat.le_of_ble_eq_true rfl) rfl dX15_init_15 (fun H locs w => ?_)
  refine lv_aload_n hx hb dX15_init_18 rfl (lv_at hl 0 rfl) ?_
  refine nw_RX15_18 S hE w (Nat.le_of_ble_eq_true rfl) (Nat.le_of_ble_eq_true rfl) dX15_init_19 (fun H w => ?_)
  refine lv_dup hx hb dX15_init_22 rfl ?_
  refine g_callv w (g_runI (As := []) (rest := [.ref (sz + 1), .ref y]) S hE w hl (c_ArrayList_init l D ar κ (g_up (g_up (g_up G sz (.inr (18, [.int 117, .int 0]))) y (.inr (19, [.ref sz, .null, .null, .null, .null, .null, .null, .int 0, .int 0, .int 0, .int 0, .int 0, .int 0, .null]))) (sz + 1) (.inr (3, [.int 0, .null, .int 0]))) (sz + 2) (sz + 1) g_up_s) (k_RX15_20 S.2.2.2.2 ⟨Nat.le_of_ble_eq_true rfl, Nat.le_of_ble_eq_true rfl⟩) rfl rfl (Nat.le_of_ble_eq_true rfl) dX15_init_23 ⟨Nat.le_of_ble_eq_true rfl, Nat.le_of_ble_eq_true rfl⟩) (fun u H locs hp hnz w => ?_)
  obtain rfl := hp
  dsimp only at w
  have w := g_eqw w g_over
  refine pf_RX15_21_19 (fs1 := [.ref sz, .ref (sz + 1), .null, .null, .null, .null, .null, .int 0, .int 0, .int 0, .int 0, .int 0, .int 0, .null]) S hE hin w (g_up_o (by omega) g_up_s) rfl rfl (Nat.le_of_ble_eq_true rfl) rfl dX15_init_26 (fun H locs w => ?_)
  have w := g_eqw w (g_inn g_over (by omega))
  refine lv_aload_n hx hb dX15_init_29 rfl (lv_at hl 0 rfl) ?_
  refine nw_RX15_18 S hE w (Nat.le_of_ble_eq_true rfl) (Nat.le_of_ble_eq_true rfl) dX15_init_30 (fun H w => ?_)
  refine lv_dup hx hb dX15_init_33 rfl ?_
  refine g_callv w (g_runI (As := []) (rest := [.ref (sz + 2), .ref y]) S hE w hl (c_ArrayList_init l D ar κ (g_up (g_up (g_up (g_up G sz (.inr (18, [.int 117, .int 0]))) y (.inr (19, [.ref sz, .ref (sz + 1), .null, .null, .null, .null, .null, .int 0, .int 0, .int 0, .int 0, .int 0, .int 0, .null]))) (sz + 1) (.inr (3, [.int 0, .ref (κ 0), .int 0]))) (sz + 2) (.inr (3, [.int 0, .null, .int 0]))) (sz + 3) (sz + 2) g_up_s) (k_RX15_20 S.2.2.2.2 ⟨Nat.le_of_ble_eq_true rfl, Nat.le_of_ble_eq_true rfl⟩) rfl rfl (Nat.le_of_ble_eq_true rfl) dX15_init_34 ⟨Nat.le_of_ble_eq_true rfl, Nat.le_of_ble_eq_true rfl⟩) (fun u H locs hp hnz w => ?_)
  obtain rfl := hp
  dsimp only at w
  have w := g_eqw w g_over
  refine pf_RX15_25_19 (fs1 := [.ref sz, .ref (sz + 1), .ref (sz + 2), .null, .null, .null, .null, .int 0, .int 0, .int 0, .int 0, .int 0, .int 0, .null]) S hE hin w (g_up_o (by omega) (g_up_o (by omega) g_up_s)) rfl rfl (Nat.le_of_ble_eq_true rfl) rfl dX15_init_37 (fun H locs w => ?_)
  have w := g_eqw w (g_inn (g_inn g_over (by omega)) (by omega))
  refine lv_aload_n hx hb dX15_init_40 rfl (lv_at hl 0 rfl) ?_
  refine nw_RX15_18 S hE w (Nat.le_of_ble_eq_true rfl) (Nat.le_of_ble_eq_true rfl) dX15_init_41 (fun H w => ?_)
  refine lv_dup hx hb dX15_init_44 rfl ?_
  refine g_callv w (g_runI (As := []) (rest := [.ref (sz + 3), .ref y]) S hE w hl (c_ArrayList_init l D ar κ (g_up (g_up (g_up (g_up (g_up G sz (.inr (18, [.int 117, .int 0]))) y (.inr (19, [.ref sz, .ref (sz + 1), .ref (sz + 2), .null, .null, .null, .null, .int 0, .int 0, .int 0, .int 0, .int 0, .int 0, .null]))) (sz + 1) (.inr (3, [.int 0, .ref (κ 0), .int 0]))) (sz + 2) (.inr (3, [.int 0, .ref (κ 0), .int 0]))) (sz + 3) (.inr (3, [.int 0, .null, .int 0]))) (sz + 4) (sz + 3) g_up_s) (k_RX15_20 S.2.2.2.2 ⟨Nat.le_of_ble_eq_true rfl, Nat.le_of_ble_eq_true rfl⟩) rfl rfl (Nat.le_of_ble_eq_true rfl) dX15_init_45 ⟨Nat.le_of_ble_eq_true rfl, Nat.le_of_ble_eq_true rfl⟩) (fun u H locs hp hnz w => ?_)
  obtain rfl := hp
  dsimp only at w
  have w := g_eqw w g_over
  refine pf_RX15_28_19 (fs1 := [.ref sz, .ref (sz + 1), .ref (sz + 2), .ref (sz + 3), .null, .null, .null, .int 0, .int 0, .int 0, .int 0, .int 0, .int 0, .null]) S hE hin w (g_up_o (by omega) (g_up_o (by omega) (g_up_o (by omega) g_up_s))) rfl rfl (Nat.le_of_ble_eq_true rfl) rfl dX15_init_48 (fun H locs w => ?_)
  have w := g_eqw w (g_inn (g_inn (g_inn g_over (by omega)) (by omega)) (by omega))
  refine lv_aload_n hx hb dX15_init_51 rfl (lv_at hl 0 rfl) ?_
  refine nw_RX15_18 S hE w (Nat.le_of_ble_eq_true rfl) (Nat.le_of_ble_eq_true rfl) dX15_init_52 (fun H w => ?_)
  refine lv_dup hx hb dX15_init_55 rfl ?_
  refine g_callv w (g_runI (As := []) (rest := [.ref (sz + 4), .ref y]) S hE w hl (c_ArrayList_init l D ar κ (g_up (g_up (g_up (g_up (g_up (g_up G sz (.inr (18, [.int 117, .int 0]))) y (.inr (19, [.ref sz, .ref (sz + 1), .ref (sz + 2), .ref (sz + 3), .null, .null, .null, .int 0, .int 0, .int 0, .int 0, .int 0, .int 0, .null]))) (sz + 1) (.inr (3, [.int 0, .ref (κ 0), .int 0]))) (sz + 2) (.inr (3, [.int 0, .ref (κ 0), .int 0]))) (sz + 3) (.inr (3, [.int 0, .ref (κ 0), .int 0]))) (sz + 4) (.inr (3, [.int 0, .null, .int 0]))) (sz + 5) (sz + 4) g_up_s) (k_RX15_20 S.2.2.2.2 ⟨Nat.le_of_ble_eq_true rfl, Nat.le_of_ble_eq_true rfl⟩) rfl rfl (Nat.le_of_ble_eq_true rfl) dX15_init_56 ⟨Nat.le_of_ble_eq_true rfl, Nat.le_of_ble_eq_true rfl⟩) (fun u H locs hp hnz w => ?_)
  obtain rfl := hp
  dsimp only at w
  have w := g_eqw w g_over
  refine pf_RX15_31_19 (fs1 := [.ref sz, .ref (sz + 1), .ref (sz + 2), .ref (sz + 3), .ref (sz + 4), .null, .null, .int 0, .int 0, .int 0, .int 0, .int 0, .int 0, .null]) S hE hin w (g_up_o (by omega) (g_up_o (by omega) (g_up_o (by omega) (g_up_o (by omega) g_up_s)))) rfl rfl (Nat.le_of_ble_eq_true rfl) rfl dX15_init_59 (fun H locs w => ?_)
  have w := g_eqw w (g_inn (g_inn (g_inn (g_inn g_over (by omega)) (by omega)) (by omega)) (by omega))
  refine lv_aload_n hx hb dX15_init_62 rfl (lv_at hl 0 rfl) ?_
  refine nw_RX15_18 S hE w (Nat.le_of_ble_eq_true rfl) (Nat.le_of_ble_eq_true rfl) dX15_init_63 (fun H w => ?_)
  refine lv_dup hx hb dX15_init_66 rfl ?_
  refine g_callv w (g_runI (As := []) (rest := [.ref (sz + 5), .ref y]) S hE w hl (c_ArrayList_init l D ar κ (g_up (g_up (g_up (g_up (g_up (g_up (g_up G sz (.inr (18, [.int 117, .int 0]))) y (.inr (19, [.ref sz, .ref (sz + 1), .ref (sz + 2), .ref (sz + 3), .ref (sz + 4), .null, .null, .int 0, .int 0, .int 0, .int 0, .int 0, .int 0, .null]))) (sz + 1) (.inr (3, [.int 0, .ref (κ 0), .int 0]))) (sz + 2) (.inr (3, [.int 0, .ref (κ 0), .int 0]))) (sz + 3) (.inr (3, [.int 0, .ref (κ 0), .int 0]))) (sz + 4) (.inr (3, [.int 0, .ref (κ 0), .int 0]))) (sz + 5) (.inr (3, [.int 0, .null, .int 0]))) (sz + 6) (sz + 5) g_up_s) (k_RX15_20 S.2.2.2.2 ⟨Nat.le_of_ble_eq_true rfl, Nat.le_of_ble_eq_true rfl⟩) rfl rfl (Nat.le_of_ble_eq_true rfl) dX15_init_67 ⟨Nat.le_of_ble_eq_true rfl, Nat.le_of_ble_eq_true rfl⟩) (fun u H locs hp hnz w => ?_)
  obtain rfl := hp
  dsimp only at w
  have w := g_eqw w g_over
  refine pf_RX15_34_19 (fs1 := [.ref sz, .ref (sz + 1), .ref (sz + 2), .ref (sz + 3), .ref (sz + 4), .ref (sz + 5), .null, .int 0, .int 0, .int 0, .int 0, .int 0, .int 0, .null]) S hE hin w (g_up_o (by omega) (g_up_o (by omega) (g_up_o (by omega) (g_up_o (by omega) (g_up_o (by omega) g_up_s))))) rfl rfl (Nat.le_of_ble_eq_true rfl) rfl dX15_init_70 (fun H locs w => ?_)
  have w := g_eqw w (g_inn (g_inn (g_inn (g_inn (g_inn g_over (by omega)) (by omega)) (by omega)) (by omega)) (by omega))
  refine lv_aload_n hx hb dX15_init_73 rfl (lv_at hl 0 rfl) ?_
  refine lv_bipush (v := 8) hx hb dX15_init_74 (by decide) ?_
  refine g_newq (N' := 8) hx hb S.2.2.2.1 (S.2.2.2.2 _ m_6_105) (va_AO.use (C := "SendhouseModel$Value") (hE.2.1.1 _ (ckN_1 _ (List.mem_of_getElem? (i := 35) rfl)))) hE.1 w 10 rfl (by decide) rfl (Nat.le_of_ble_eq_true rfl) (Nat.le_of_ble_eq_true rfl) (Nat.le_of_ble_eq_true rfl) dX15_init_76 (fun H w => ?_)
  refine pf_RX15_37_19 (fs1 := [.ref sz, .ref (sz + 1), .ref (sz + 2), .ref (sz + 3), .ref (sz + 4), .ref (sz + 5), .ref (sz + 6), .int 0, .int 0, .int 0, .int 0, .int 0, .int 0, .null]) S hE hin w (g_up_o (by omega) (g_up_o (by omega) (g_up_o (by omega) (g_up_o (by omega) (g_up_o (by omega) (g_up_o (by omega) g_up_s)))))) rfl rfl (Nat.le_of_ble_eq_true rfl) rfl dX15_init_79 (fun H locs w => ?_)
  have w := g_eqw w (g_inn (g_inn (g_inn (g_inn (g_inn (g_inn g_over (by omega)) (by omega)) (by omega)) (by omega)) (by omega)) (by omega))
  refine lv_aload_n hx hb dX15_init_82 rfl (lv_at hl 0 rfl) ?_
  refine lv_bipush (v := 45) hx hb dX15_init_83 (by decide) ?_
  refine pf_RX15_41_19 (fs1 := [.ref sz, .ref (sz + 1), .ref (sz + 2), .ref (sz + 3), .ref (sz + 4), .ref (sz + 5), .ref (sz + 6), .int 0, .int 0, .int 0, .int 0, .int 45, .int 0, .null]) S hE w (g_up_o (by omega) (g_up_o (by omega) (g_up_o (by omega) (g_up_o (by omega) (g_up_o (by omega) (g_up_o (by omega) g_up_s)))))) rfl rfl (Nat.le_of_ble_eq_true rfl) rfl dX15_init_85 (fun H locs w => ?_)
  have w := g_eqw w (g_inn (g_inn (g_inn (g_inn (g_inn (g_inn g_over (by omega)) (by omega)) (by omega)) (by omega)) (by omega)) (by omega))
  refine lv_iconst (v := 0) hx hb dX15_init_88 (by decide) ?_
  refine lv_istore_n (lv' := [(1, .int 0), (0, .ref y)]) hx hb dX15_init_89 rfl hl (by decide) rfl (fun ls hl => ?_)
  refine lv_iload_n hx hb dX15_init_90 rfl (lv_at hl 0 rfl) ?_
  refine lv_bipush (v := 8) hx hb dX15_init_91 (by decide) ?_
  refine lv_icmp_ge (tgt := 112) hx hb dX15_init_93 (by decide) (fun c => absurd c (by decide)) (fun _ => ?_)
  refine lv_aload_n hx hb dX15_init_96 rfl (lv_at hl 1 rfl) ?_
  refine gf_RX15_37_19 S hE w (g_up_o (by omega) (g_up_o (by omega) (g_up_o (by omega) (g_up_o (by omega) (g_up_o (by omega) (g_up_o (by omega) g_up_s)))))) rfl dX15_init_97 ?_
  refine lv_iload_n hx hb dX15_init_100 rfl (lv_at hl 0 rfl) ?_
  refine lv_aload_n hx hb dX15_init_101 rfl (lv_at hl 1 rfl) ?_
  refine gf_RX15_12_19 S hE w (g_up_o (by omega) (g_up_o (by omega) (g_up_o (by omega) (g_up_o (by omega) (g_up_o (by omega) (g_up_o (by omega) g_up_s)))))) rfl dX15_init_102 ?_
  refine g_astq (r := (RX14, TX14, 2)) hx hb hE.1 w 10 18 g_up_s rfl (g_up_o (by omega) (g_up_o (by omega) (g_up_o (by omega) (g_up_o (by omega) (g_up_o (by omega) (g_up_o (by omega) (g_up_o (by omega) g_up_s))))))) rfl (vp_in_nI (n := 0) (by decide) (by decide)) dX15_init_105 (fun H locs w => ?_)
  have w := g_eqw w g_over
  refine lv_iinc (v := 1) (lv' := [(1, .int 1), (0, .ref y)]) hx hb dX15_init_106 hl (k := 0) rfl (by decide) (by decide) rfl (fun ls hl => ?_)
  refine lv_goto (tgt := 90) hx hb dX15_init_109 (by decide) ?_
  refine lv_iload_n hx hb dX15_init_90 rfl (lv_at hl 0 rfl) ?_
  refine lv_bipush (v := 8) hx hb dX15_init_91 (by decide) ?_
  refine lv_icmp_ge (tgt := 112) hx hb dX15_init_93 (by decide) (fun c => absurd c (by decide)) (fun _ => ?_)
  refine lv_aload_n hx hb dX15_init_96 rfl (lv_at hl 1 rfl) ?_
  refine gf_RX15_37_19 S hE w (g_up_o (by omega) (g_up_o (by omega) (g_up_o (by omega) (g_up_o (by omega) (g_up_o (by omega) (g_up_o (by omega) g_up_s)))))) rfl dX15_init_97 ?_
  refine lv_iload_n hx hb dX15_init_100 rfl (lv_at hl 0 rfl) ?_
  refine lv_aload_n hx hb dX15_init_101 rfl (lv_at hl 1 rfl) ?_
  refine gf_RX15_12_19 S hE w (g_up_o (by omega) (g_up_o (by omega) (g_up_o (by omega) (g_up_o (by omega) (g_up_o (by omega) (g_up_o (by omega) g_up_s)))))) rfl dX15_init_102 ?_
  refine g_astq (r := (RX14, TX14, 2)) hx hb hE.1 w 10 18 g_up_s rfl (g_up_o (by omega) (g_up_o (by omega) (g_up_o (by omega) (g_up_o (by omega) (g_up_o (by omega) (g_up_o (by omega) (g_up_o (by omega) g_up_s))))))) rfl (vp_in_nI (n := 1) (by decide) (by decide)) dX15_init_105 (fun H locs w => ?_)
  have w := g_eqw w g_over
  refine lv_iinc (v := 2) (lv' := [(1, .int 2), (0, .ref y)]) hx hb dX15_init_106 hl (k := 0) rfl (by decide) (by decide) rfl (fun ls hl => ?_)
  refine lv_goto (tgt := 90) hx hb dX15_init_109 (by decide) ?_
  refine lv_iload_n hx hb dX15_init_90 rfl (lv_at hl 0 rfl) ?_
  refine lv_bipush (v := 8) hx hb dX15_init_91 (by decide) ?_
  refine lv_icmp_ge (tgt := 112) hx hb dX15_init_93 (by decide) (fun c => absurd c (by decide)) (fun _ => ?_)
  refine lv_aload_n hx hb dX15_init_96 rfl (lv_at hl 1 rfl) ?_
  refine gf_RX15_37_19 S hE w (g_up_o (by omega) (g_up_o (by omega) (g_up_o (by omega) (g_up_o (by omega) (g_up_o (by omega) (g_up_o (by omega) g_up_s)))))) rfl dX15_init_97 ?_
  refine lv_iload_n hx hb dX15_init_100 rfl (lv_at hl 0 rfl) ?_
  refine lv_aload_n hx hb dX15_init_101 rfl (lv_at hl 1 rfl) ?_
  refine gf_RX15_12_19 S hE w (g_up_o (by omega) (g_up_o (by omega) (g_up_o (by omega) (g_up_o (by omega) (g_up_o (by omega) (g_up_o (by omega) g_up_s)))))) rfl dX15_init_102 ?_
  refine g_astq (r := (RX14, TX14, 2)) hx hb hE.1 w 10 18 g_up_s rfl (g_up_o (by omega) (g_up_o (by omega) (g_up_o (by omega) (g_up_o (by omega) (g_up_o (by omega) (g_up_o (by omega) (g_up_o (by omega) g_up_s))))))) rfl (vp_in_nI (n := 2) (by decide) (by decide)) dX15_init_105 (fun H locs w => ?_)
  have w := g_eqw w g_over
  refine lv_iinc (v := 3) (lv' := [(1, .int 3), (0, .ref y)]) hx hb dX15_init_106 hl (k := 0) rfl (by decide) (by decide) rfl (fun ls hl => ?_)
  refine lv_goto (tgt := 90) hx hb dX15_init_109 (by decide) ?_
  refine lv_iload_n hx hb dX15_init_90 rfl (lv_at hl 0 rfl) ?_
  refine lv_bipush (v := 8) hx hb dX15_init_91 (by decide) ?_
  refine lv_icmp_ge (tgt := 112) hx hb dX15_init_93 (by decide) (fun c => absurd c (by decide)) (fun _ => ?_)
  refine lv_aload_n hx hb dX15_init_96 rfl (lv_at hl 1 rfl) ?_
  refine gf_RX15_37_19 S hE w (g_up_o (by omega) (g_up_o (by omega) (g_up_o (by omega) (g_up_o (by omega) (g_up_o (by omega) (g_up_o (by omega) g_up_s)))))) rfl dX15_init_97 ?_
  refine lv_iload_n hx hb dX15_init_100 rfl (lv_at hl 0 rfl) ?_
  refine lv_aload_n hx hb dX15_init_101 rfl (lv_at hl 1 rfl) ?_
  refine gf_RX15_12_19 S hE w (g_up_o (by omega) (g_up_o (by omega) (g_up_o (by omega) (g_up_o (by omega) (g_up_o (by omega) (g_up_o (by omega) g_up_s)))))) rfl dX15_init_102 ?_
  refine g_astq (r := (RX14, TX14, 2)) hx hb hE.1 w 10 18 g_up_s rfl (g_up_o (by omega) (g_up_o (by omega) (g_up_o (by omega) (g_up_o (by omega) (g_up_o (by omega) (g_up_o (by omega) (g_up_o (by omega) g_up_s))))))) rfl (vp_in_nI (n := 3) (by decide) (by decide)) dX15_init_105 (fun H locs w => ?_)
  have w := g_eqw w g_over
  refine lv_iinc (v := 4) (lv' := [(1, .int 4), (0, .ref y)]) hx hb dX15_init_106 hl (k := 0) rfl (by decide) (by decide) rfl (fun ls hl => ?_)
  refine lv_goto (tgt := 90) hx hb dX15_init_109 (by decide) ?_
  refine lv_iload_n hx hb dX15_init_90 rfl (lv_at hl 0 rfl) ?_
  refine lv_bipush (v := 8) hx hb dX15_init_91 (by decide) ?_
  refine lv_icmp_ge (tgt := 112) hx hb dX15_init_93 (by decide) (fun c => absurd c (by decide)) (fun _ => ?_)
  refine lv_aload_n hx hb dX15_init_96 rfl (lv_at hl 1 rfl) ?_
  refine gf_RX15_37_19 S hE w (g_up_o (by omega) (g_up_o (by omega) (g_up_o (by omega) (g_up_o (by omega) (g_up_o (by omega) (g_up_o (by omega) g_up_s)))))) rfl dX15_init_97 ?_
  refine lv_iload_n hx hb dX15_init_100 rfl (lv_at hl 0 rfl) ?_
  refine lv_aload_n hx hb dX15_init_101 rfl (lv_at hl 1 rfl) ?_
  refine gf_RX15_12_19 S hE w (g_up_o (by omega) (g_up_o (by omega) (g_up_o (by omega) (g_up_o (by omega) (g_up_o (by omega) (g_up_o (by omega) g_up_s)))))) rfl dX15_init_102 ?_
  refine g_astq (r := (RX14, TX14, 2)) hx hb hE.1 w 10 18 g_up_s rfl (g_up_o (by omega) (g_up_o (by omega) (g_up_o (by omega) (g_up_o (by omega) (g_up_o (by omega) (g_up_o (by omega) (g_up_o (by omega) g_up_s))))))) rfl (vp_in_nI (n := 4) (by decide) (by decide)) dX15_init_105 (fun H locs w => ?_)
  have w := g_eqw w g_over
  refine lv_iinc (v := 5) (lv' := [(1, .int 5), (0, .ref y)]) hx hb dX15_init_106 hl (k := 0) rfl (by decide) (by decide) rfl (fun ls hl => ?_)
  refine lv_goto (tgt := 90) hx hb dX15_init_109 (by decide) ?_
  refine lv_iload_n hx hb dX15_init_90 rfl (lv_at hl 0 rfl) ?_
  refine lv_bipush (v := 8) hx hb dX15_init_91 (by decide) ?_
  refine lv_icmp_ge (tgt := 112) hx hb dX15_init_93 (by decide) (fun c => absurd c (by decide)) (fun _ => ?_)
  refine lv_aload_n hx hb dX15_init_96 rfl (lv_at hl 1 rfl) ?_
  refine gf_RX15_37_19 S hE w (g_up_o (by omega) (g_up_o (by omega) (g_up_o (by omega) (g_up_o (by omega) (g_up_o (by omega) (g_up_o (by omega) g_up_s)))))) rfl dX15_init_97 ?_
  refine lv_iload_n hx hb dX15_init_100 rfl (lv_at hl 0 rfl) ?_
  refine lv_aload_n hx hb dX15_init_101 rfl (lv_at hl 1 rfl) ?_
  refine gf_RX15_12_19 S hE w (g_up_o (by omega) (g_up_o (by omega) (g_up_o (by omega) (g_up_o (by omega) (g_up_o (by omega) (g_up_o (by omega) g_up_s)))))) rfl dX15_init_102 ?_
  refine g_astq (r := (RX14, TX14, 2)) hx hb hE.1 w 10 18 g_up_s rfl (g_up_o (by omega) (g_up_o (by omega) (g_up_o (by omega) (g_up_o (by omega) (g_up_o (by omega) (g_up_o (by omega) (g_up_o (by omega) g_up_s))))))) rfl (vp_in_nI (n := 5) (by decide) (by decide)) dX15_init_105 (fun H locs w => ?_)
  have w := g_eqw w g_over
  refine lv_iinc (v := 6) (lv' := [(1, .int 6), (0, .ref y)]) hx hb dX15_init_106 hl (k := 0) rfl (by decide) (by decide) rfl (fun ls hl => ?_)
  refine lv_goto (tgt := 90) hx hb dX15_init_109 (by decide) ?_
  refine lv_iload_n hx hb dX15_init_90 rfl (lv_at hl 0 rfl) ?_
  refine lv_bipush (v := 8) hx hb dX15_init_91 (by decide) ?_
  refine lv_icmp_ge (tgt := 112) hx hb dX15_init_93 (by decide) (fun c => absurd c (by decide)) (fun _ => ?_)
  refine lv_aload_n hx hb dX15_init_96 rfl (lv_at hl 1 rfl) ?_
  refine gf_RX15_37_19 S hE w (g_up_o (by omega) (g_up_o (by omega) (g_up_o (by omega) (g_up_o (by omega) (g_up_o (by omega) (g_up_o (by omega) g_up_s)))))) rfl dX15_init_97 ?_
  refine lv_iload_n hx hb dX15_init_100 rfl (lv_at hl 0 rfl) ?_
  refine lv_aload_n hx hb dX15_init_101 rfl (lv_at hl 1 rfl) ?_
  refine gf_RX15_12_19 S hE w (g_up_o (by omega) (g_up_o (by omega) (g_up_o (by omega) (g_up_o (by omega) (g_up_o (by omega) (g_up_o (by omega) g_up_s)))))) rfl dX15_init_102 ?_
  refine g_astq (r := (RX14, TX14, 2)) hx hb hE.1 w 10 18 g_up_s rfl (g_up_o (by omega) (g_up_o (by omega) (g_up_o (by omega) (g_up_o (by omega) (g_up_o (by omega) (g_up_o (by omega) (g_up_o (by omega) g_up_s))))))) rfl (vp_in_nI (n := 6) (by decide) (by decide)) dX15_init_105 (fun H locs w => ?_)
  have w := g_eqw w g_over
  refine lv_iinc (v := 7) (lv' := [(1, .int 7), (0, .ref y)]) hx hb dX15_init_106 hl (k := 0) rfl (by decide) (by decide) rfl (fun ls hl => ?_)
  refine lv_goto (tgt := 90) hx hb dX15_init_109 (by decide) ?_
  refine lv_iload_n hx hb dX15_init_90 rfl (lv_at hl 0 rfl) ?_
  refine lv_bipush (v := 8) hx hb dX15_init_91 (by decide) ?_
  refine lv_icmp_ge (tgt := 112) hx hb dX15_init_93 (by decide) (fun c => absurd c (by decide)) (fun _ => ?_)
  refine lv_aload_n hx hb dX15_init_96 rfl (lv_at hl 1 rfl) ?_
  refine gf_RX15_37_19 S hE w (g_up_o (by omega) (g_up_o (by omega) (g_up_o (by omega) (g_up_o (by omega) (g_up_o (by omega) (g_up_o (by omega) g_up_s)))))) rfl dX15_init_97 ?_
  refine lv_iload_n hx hb dX15_init_100 rfl (lv_at hl 0 rfl) ?_
  refine lv_aload_n hx hb dX15_init_101 rfl (lv_at hl 1 rfl) ?_
  refine gf_RX15_12_19 S hE w (g_up_o (by omega) (g_up_o (by omega) (g_up_o (by omega) (g_up_o (by omega) (g_up_o (by omega) (g_up_o (by omega) g_up_s)))))) rfl dX15_init_102 ?_
  refine g_astq (r := (RX14, TX14, 2)) hx hb hE.1 w 10 18 g_up_s rfl (g_up_o (by omega) (g_up_o (by omega) (g_up_o (by omega) (g_up_o (by omega) (g_up_o (by omega) (g_up_o (by omega) (g_up_o (by omega) g_up_s))))))) rfl (vp_in_nI (n := 7) (by decide) (by decide)) dX15_init_105 (fun H locs w => ?_)
  have w := g_eqw w g_over
  refine lv_iinc (v := 8) (lv' := [(1, .int 8), (0, .ref y)]) hx hb dX15_init_106 hl (k := 0) rfl (by decide) (by decide) rfl (fun ls hl => ?_)
  refine lv_goto (tgt := 90) hx hb dX15_init_109 (by decide) ?_
  refine lv_iload_n hx hb dX15_init_90 rfl (lv_at hl 0 rfl) ?_
  refine lv_bipush (v := 8) hx hb dX15_init_91 (by decide) ?_
  refine lv_icmp_ge (tgt := 112) hx hb dX15_init_93 (by decide) (fun _ => ?_) (fun c => absurd (by decide) c)
  refine lv_aload_n hx hb dX15_init_112 rfl (lv_at hl 1 rfl) ?_
  refine gf_RX15_21_19 S hE w (g_up_o (by omega) (g_up_o (by omega) (g_up_o (by omega) (g_up_o (by omega) (g_up_o (by omega) (g_up_o (by omega) g_up_s)))))) rfl dX15_init_113 ?_
  refine nw_RX15_45 S hE w (Nat.le_of_ble_eq_true rfl) (Nat.le_of_ble_eq_true rfl) dX15_init_116 (fun H w => ?_)
  refine lv_dup hx hb dX15_init_119 rfl ?_
  refine lv_iconst (v := (-1)) hx hb dX15_init_120 (by decide) ?_
  refine lv_iconst (v := 0) hx hb dX15_init_121 (by decide) ?_
  refine g_callv w (g_runI (As := [.int (-1), .int 0]) (rest := [.ref (sz + 7), .ref (sz + 1)]) S hE w hl (c_X10_init l D ar κ (g_up (g_up (g_up (g_up (g_up (g_up (g_up (g_up (g_up G sz (.inr (18, [.int 117, .int 0]))) y (.inr (19, [.ref sz, .ref (sz + 1), .ref (sz + 2), .ref (sz + 3), .ref (sz + 4), .ref (sz + 5), .ref (sz + 6), .int 0, .int 0, .int 0, .int 0, .int 45, .int 0, .null]))) (sz + 1) (.inr (3, [.int 0, .ref (κ 0), .int 0]))) (sz + 2) (.inr (3, [.int 0, .ref (κ 0), .int 0]))) (sz + 3) (.inr (3, [.int 0, .ref (κ 0), .int 0]))) (sz + 4) (.inr (3, [.int 0, .ref (κ 0), .int 0]))) (sz + 5) (.inr (3, [.int 0, .ref (κ 0), .int 0]))) (sz + 6) (.inl (ar 10, 8, .inr (.inr (.inr (.inr (va_up (va_up (va_up (va_up (va_up (va_up (va_up (va_up (fun _ => none) (Int32.toNatClampNeg 0) (some sz)) (Int32.toNatClampNeg 1) (some sz)) (Int32.toNatClampNeg 2) (some sz)) (Int32.toNatClampNeg 3) (some sz)) (Int32.toNatClampNeg 4) (some sz)) (Int32.toNatClampNeg 5) (some sz)) (Int32.toNatClampNeg 6) (some sz)) (Int32.toNatClampNeg 7) (some sz)))))))) (sz + 7) (.inr (14, [.int 0, .int 0, .null]))) (sz + 8) (sz + 7) (-1) 0 g_up_s) (k_RX15_47 S.2.2.2.2 ⟨Nat.le_of_ble_eq_true rfl, Nat.le_of_ble_eq_true rfl⟩) rfl rfl (Nat.le_of_ble_eq_true rfl) dX15_init_122 ⟨Nat.le_of_ble_eq_true rfl, Nat.le_of_ble_eq_true rfl⟩) (fun u H locs hp hnz w => ?_)
  obtain rfl := hp
  dsimp only at w
  have w := g_eqw w (g_inn g_over (by omega))
  refine g_calli w (g_runV (As := [.ref (sz + 7)]) (rest := []) S hE w hl (c_add1A_14 l D ar κ (g_up (g_up (g_up (g_up (g_up (g_up (g_up (g_up (g_up (g_up G sz (.inr (18, [.int 117, .int 0]))) y (.inr (19, [.ref sz, .ref (sz + 1), .ref (sz + 2), .ref (sz + 3), .ref (sz + 4), .ref (sz + 5), .ref (sz + 6), .int 0, .int 0, .int 0, .int 0, .int 45, .int 0, .null]))) (sz + 1) (.inr (3, [.int 0, .ref (κ 0), .int 0]))) (sz + 2) (.inr (3, [.int 0, .ref (κ 0), .int 0]))) (sz + 3) (.inr (3, [.int 0, .ref (κ 0), .int 0]))) (sz + 4) (.inr (3, [.int 0, .ref (κ 0), .int 0]))) (sz + 5) (.inr (3, [.int 0, .ref (κ 0), .int 0]))) (sz + 6) (.inl (ar 10, 8, .inr (.inr (.inr (.inr (va_up (va_up (va_up (va_up (va_up (va_up (va_up (va_up (fun _ => none) (Int32.toNatClampNeg 0) (some sz)) (Int32.toNatClampNeg 1) (some sz)) (Int32.toNatClampNeg 2) (some sz)) (Int32.toNatClampNeg 3) (some sz)) (Int32.toNatClampNeg 4) (some sz)) (Int32.toNatClampNeg 5) (some sz)) (Int32.toNatClampNeg 6) (some sz)) (Int32.toNatClampNeg 7) (some sz)))))))) (sz + 7) (.inr (14, [.int (-1), .int 0, .ref (sz + 8)]))) (sz + 8) (.inl (ar 9, 16, .inr (.inr (.inr (.inr (fun _ => none))))))) (sz + 9) (sz + 1) (sz + 7) 0 (-1) 0 (some (sz + 8)) (g_up_o (by omega) (g_up_o (by omega) (g_up_o (by omega) (g_up_o (by omega) (g_up_o (by omega) (g_up_o (by omega) (g_up_o (by omega) g_up_s))))))) (g_up_o (by omega) g_up_s)) (k_RX15_50 S.2.2.2.2 ⟨Nat.le_of_ble_eq_true rfl, Nat.le_of_ble_eq_true rfl⟩) (g_up_o (by omega) (g_up_o (by omega) (g_up_o (by omega) (g_up_o (by omega) (g_up_o (by omega) (g_up_o (by omega) (g_up_o (by omega) g_up_s))))))) rfl rfl rfl rfl (Nat.le_of_ble_eq_true rfl) dX15_init_125 ⟨Nat.le_of_ble_eq_true rfl, Nat.le_of_ble_eq_true rfl⟩) (fun r u H locs hp hnz w => ?_)
  obtain ⟨rfl, rfl⟩ := hp
  dsimp only at w
  have w := g_eqw w (g_cng (g_inn (g_inn (g_inn (g_inn (g_inn (g_inn (g_inn g_over (by omega)) (by omega)) (by omega)) (by omega)) (by omega)) (by omega)) (by omega)))
  rw [show ((0 + 1) : Int32) = 1 from by decide +kernel] at w
  refine lv_pop hx hb dX15_init_128 rfl ?_
  refine lv_aload_n hx hb dX15_init_129 rfl (lv_at hl 1 rfl) ?_
  refine gf_RX15_21_19 S hE w (g_up_o (by omega) (g_up_o (by omega) (g_up_o (by omega) (g_up_o (by omega) (g_up_o (by omega) (g_up_o (by omega) (g_up_o (by omega) (g_up_o (by omega) (g_up_o (by omega) g_up_s))))))))) rfl dX15_init_130 ?_
  refine nw_RX15_45 S hE w (Nat.le_of_ble_eq_true rfl) (Nat.le_of_ble_eq_true rfl) dX15_init_133 (fun H w => ?_)
  refine lv_dup hx hb dX15_init_136 rfl ?_
  refine lv_iconst (v := 0) hx hb dX15_init_137 (by decide) ?_
  refine lv_iconst (v := 0) hx hb dX15_init_138 (by decide) ?_
  refine g_callv w (g_runI (As := [.int 0, .int 0]) (rest := [.ref (sz + 10), .ref (sz + 1)]) S hE w hl (c_X10_init l D ar κ (g_up (g_up (g_up (g_up (g_up (g_up (g_up (g_up (g_up (g_up (g_up (g_up G sz (.inr (18, [.int 117, .int 0]))) y (.inr (19, [.ref sz, .ref (sz + 1), .ref (sz + 2), .ref (sz + 3), .ref (sz + 4), .ref (sz + 5), .ref (sz + 6), .int 0, .int 0, .int 0, .int 0, .int 45, .int 0, .null]))) (sz + 1) (.inr (3, [.int 1, .ref (sz + 9), .int 1]))) (sz + 2) (.inr (3, [.int 0, .ref (κ 0), .int 0]))) (sz + 3) (.inr (3, [.int 0, .ref (κ 0), .int 0]))) (sz + 4) (.inr (3, [.int 0, .ref (κ 0), .int 0]))) (sz + 5) (.inr (3, [.int 0, .ref (κ 0), .int 0]))) (sz + 6) (.inl (ar 10, 8, .inr (.inr (.inr (.inr (va_up (va_up (va_up (va_up (va_up (va_up (va_up (va_up (fun _ => none) (Int32.toNatClampNeg 0) (some sz)) (Int32.toNatClampNeg 1) (some sz)) (Int32.toNatClampNeg 2) (some sz)) (Int32.toNatClampNeg 3) (some sz)) (Int32.toNatClampNeg 4) (some sz)) (Int32.toNatClampNeg 5) (some sz)) (Int32.toNatClampNeg 6) (some sz)) (Int32.toNatClampNeg 7) (some sz)))))))) (sz + 7) (.inr (14, [.int (-1), .int 0, .ref (sz + 8)]))) (sz + 8) (.inl (ar 9, 16, .inr (.inr (.inr (.inr (fun _ => none))))))) (sz + 9) (.inl (ar 11, 10, .inr (.inr (.inr (.inr (va_up (fun _ => none) (Int32.toNatClampNeg 0) (some (sz + 7))))))))) (sz + 10) (.inr (14, [.int 0, .int 0, .null]))) (sz + 11) (sz + 10) 0 0 g_up_s) (k_RX15_47 S.2.2.2.2 ⟨Nat.le_of_ble_eq_true rfl, Nat.le_of_ble_eq_true rfl⟩) rfl rfl (Nat.le_of_ble_eq_true rfl) dX15_init_139 ⟨Nat.le_of_ble_eq_true rfl, Nat.le_of_ble_eq_true rfl⟩) (fun u H locs hp hnz w => ?_)
  obtain rfl := hp
  dsimp only at w
  have w := g_eqw w (g_inn g_over (by omega))
  refine g_calli w (g_runV (As := [.ref (sz + 10)]) (rest := []) S hE w hl (c_add1B_14 l D ar κ (g_up (g_up (g_up (g_up (g_up (g_up (g_up (g_up (g_up (g_up (g_up (g_up (g_up G sz (.inr (18, [.int 117, .int 0]))) y (.inr (19, [.ref sz, .ref (sz + 1), .ref (sz + 2), .ref (sz + 3), .ref (sz + 4), .ref (sz + 5), .ref (sz + 6), .int 0, .int 0, .int 0, .int 0, .int 45, .int 0, .null]))) (sz + 1) (.inr (3, [.int 1, .ref (sz + 9), .int 1]))) (sz + 2) (.inr (3, [.int 0, .ref (κ 0), .int 0]))) (sz + 3) (.inr (3, [.int 0, .ref (κ 0), .int 0]))) (sz + 4) (.inr (3, [.int 0, .ref (κ 0), .int 0]))) (sz + 5) (.inr (3, [.int 0, .ref (κ 0), .int 0]))) (sz + 6) (.inl (ar 10, 8, .inr (.inr (.inr (.inr (va_up (va_up (va_up (va_up (va_up (va_up (va_up (va_up (fun _ => none) (Int32.toNatClampNeg 0) (some sz)) (Int32.toNatClampNeg 1) (some sz)) (Int32.toNatClampNeg 2) (some sz)) (Int32.toNatClampNeg 3) (some sz)) (Int32.toNatClampNeg 4) (some sz)) (Int32.toNatClampNeg 5) (some sz)) (Int32.toNatClampNeg 6) (some sz)) (Int32.toNatClampNeg 7) (some sz)))))))) (sz + 7) (.inr (14, [.int (-1), .int 0, .ref (sz + 8)]))) (sz + 8) (.inl (ar 9, 16, .inr (.inr (.inr (.inr (fun _ => none))))))) (sz + 9) (.inl (ar 11, 10, .inr (.inr (.inr (.inr (va_up (fun _ => none) (Int32.toNatClampNeg 0) (some (sz + 7))))))))) (sz + 10) (.inr (14, [.int 0, .int 0, .ref (sz + 11)]))) (sz + 11) (.inl (ar 9, 16, .inr (.inr (.inr (.inr (fun _ => none))))))) (sz + 12) (sz + 1) (sz + 10) 1 (sz + 9) 1 (va_up (fun _ => none) (Int32.toNatClampNeg 0) (some (sz + 7))) 0 0 (some (sz + 11)) (g_up_o (by omega) (g_up_o (by omega) (g_up_o (by omega) (g_up_o (by omega) (g_up_o (by omega) (g_up_o (by omega) (g_up_o (by omega) (g_up_o (by omega) (g_up_o (by omega) (g_up_o (by omega) g_up_s)))))))))) (g_up_o (by omega) (g_up_o (by omega) g_up_s)) (g_up_o (by omega) g_up_s) (by decide) (vp_in_nI (n := 1) (by decide) (by decide))) (k_RX15_50 S.2.2.2.2 ⟨Nat.le_of_ble_eq_true rfl, Nat.le_of_ble_eq_true rfl⟩) (g_up_o (by omega) (g_up_o (by omega) (g_up_o (by omega) (g_up_o (by omega) (g_up_o (by omega) (g_up_o (by omega) (g_up_o (by omega) (g_up_o (by omega) (g_up_o (by omega) (g_up_o (by omega) g_up_s)))))))))) rfl rfl rfl rfl (Nat.le_of_ble_eq_true rfl) dX15_init_142 ⟨Nat.le_of_ble_eq_true rfl, Nat.le_of_ble_eq_true rfl⟩) (fun r u H locs hp hnz w => ?_)
  obtain ⟨rfl, rfl⟩ := hp
  dsimp only at w
  have w := g_eqw w ((g_cng (g_inn (g_inn (g_inn (g_inn (g_inn (g_inn (g_inn (g_inn (g_inn (g_inn g_over (by omega)) (by omega)) (by omega)) (by omega)) (by omega)) (by omega)) (by omega)) (by omega)) (by omega)) (by omega))).trans (g_inn (g_inn g_over (by omega)) (by omega)))
  rw [show ((1 + 1) : Int32) = 2 from by decide +kernel] at w
  refine lv_pop hx hb dX15_init_145 rfl ?_
  refine lv_aload_n hx hb dX15_init_146 rfl (lv_at hl 1 rfl) ?_
  refine gf_RX15_21_19 S hE w (g_up_o (by omega) (g_up_o (by omega) (g_up_o (by omega) (g_up_o (by omega) (g_up_o (by omega) (g_up_o (by omega) (g_up_o (by omega) (g_up_o (by omega) (g_up_o (by omega) (g_up_o (by omega) (g_up_o (by omega) g_up_s))))))))))) rfl dX15_init_147 ?_
  refine nw_RX15_45 S hE w (Nat.le_of_ble_eq_true rfl) (Nat.le_of_ble_eq_true rfl) dX15_init_150 (fun H w => ?_)
  refine lv_dup hx hb dX15_init_153 rfl ?_
  refine lv_iconst (v := 0) hx hb dX15_init_154 (by decide) ?_
  refine lv_iconst (v := 0) hx hb dX15_init_155 (by decide) ?_
  refine g_callv w (g_runI (As := [.int 0, .int 0]) (rest := [.ref (sz + 12), .ref (sz + 1)]) S hE w hl (c_X10_init l D ar κ (g_up (g_up (g_up (g_up (g_up (g_up (g_up (g_up (g_up (g_up (g_up (g_up (g_up (g_up G sz (.inr (18, [.int 117, .int 0]))) y (.inr (19, [.ref sz, .ref (sz + 1), .ref (sz + 2), .ref (sz + 3), .ref (sz + 4), .ref (sz + 5), .ref (sz + 6), .int 0, .int 0, .int 0, .int 0, .int 45, .int 0, .null]))) (sz + 1) (.inr (3, [.int 2, .ref (sz + 9), .int 2]))) (sz + 2) (.inr (3, [.int 0, .ref (κ 0), .int 0]))) (sz + 3) (.inr (3, [.int 0, .ref (κ 0), .int 0]))) (sz + 4) (.inr (3, [.int 0, .ref (κ 0), .int 0]))) (sz + 5) (.inr (3, [.int 0, .ref (κ 0), .int 0]))) (sz + 6) (.inl (ar 10, 8, .inr (.inr (.inr (.inr (va_up (va_up (va_up (va_up (va_up (va_up (va_up (va_up (fun _ => none) (Int32.toNatClampNeg 0) (some sz)) (Int32.toNatClampNeg 1) (some sz)) (Int32.toNatClampNeg 2) (some sz)) (Int32.toNatClampNeg 3) (some sz)) (Int32.toNatClampNeg 4) (some sz)) (Int32.toNatClampNeg 5) (some sz)) (Int32.toNatClampNeg 6) (some sz)) (Int32.toNatClampNeg 7) (some sz)))))))) (sz + 7) (.inr (14, [.int (-1), .int 0, .ref (sz + 8)]))) (sz + 8) (.inl (ar 9, 16, .inr (.inr (.inr (.inr (fun _ => none))))))) (sz + 9) (.inl (ar 11, 10, .inr (.inr (.inr (.inr (va_up (va_up (fun _ => none) (Int32.toNatClampNeg 0) (some (sz + 7))) (Int32.toNatClampNeg 1) (some (sz + 10))))))))) (sz + 10) (.inr (14, [.int 0, .int 0, .ref (sz + 11)]))) (sz + 11) (.inl (ar 9, 16, .inr (.inr (.inr (.inr (fun _ => none))))))) (sz + 12) (.inr (14, [.int 0, .int 0, .null]))) (sz + 13) (sz + 12) 0 0 g_up_s) (k_RX15_47 S.2.2.2.2 ⟨Nat.le_of_ble_eq_true rfl, Nat.le_of_ble_eq_true rfl⟩) rfl rfl (Nat.le_of_ble_eq_true rfl) dX15_init_156 ⟨Nat.le_of_ble_eq_true rfl, Nat.le_of_ble_eq_true rfl⟩) (fun u H locs hp hnz w => ?_)
  obtain rfl := hp
  dsimp only at w
  have w := g_eqw w (g_inn g_over (by omega))
  refine g_calli w (g_runV (As := [.ref (sz + 12)]) (rest := []) S hE w hl (c_add1B_14 l D ar κ (g_up (g_up (g_up (g_up (g_up (g_up (g_up (g_up (g_up (g_up (g_up (g_up (g_up (g_up (g_up G sz (.inr (18, [.int 117, .int 0]))) y (.inr (19, [.ref sz, .ref (sz + 1), .ref (sz + 2), .ref (sz + 3), .ref (sz + 4), .ref (sz + 5), .ref (sz + 6), .int 0, .int 0, .int 0, .int 0, .int 45, .int 0, .null]))) (sz + 1) (.inr (3, [.int 2, .ref (sz + 9), .int 2]))) (sz + 2) (.inr (3, [.int 0, .ref (κ 0), .int 0]))) (sz + 3) (.inr (3, [.int 0, .ref (κ 0), .int 0]))) (sz + 4) (.inr (3, [.int 0, .ref (κ 0), .int 0]))) (sz + 5) (.inr (3, [.int 0, .ref (κ 0), .int 0]))) (sz + 6) (.inl (ar 10, 8, .inr (.inr (.inr (.inr (va_up (va_up (va_up (va_up (va_up (va_up (va_up (va_up (fun _ => none) (Int32.toNatClampNeg 0) (some sz)) (Int32.toNatClampNeg 1) (some sz)) (Int32.toNatClampNeg 2) (some sz)) (Int32.toNatClampNeg 3) (some sz)) (Int32.toNatClampNeg 4) (some sz)) (Int32.toNatClampNeg 5) (some sz)) (Int32.toNatClampNeg 6) (some sz)) (Int32.toNatClampNeg 7) (some sz)))))))) (sz + 7) (.inr (14, [.int (-1), .int 0, .ref (sz + 8)]))) (sz + 8) (.inl (ar 9, 16, .inr (.inr (.inr (.inr (fun _ => none))))))) (sz + 9) (.inl (ar 11, 10, .inr (.inr (.inr (.inr (va_up (va_up (fun _ => none) (Int32.toNatClampNeg 0) (some (sz + 7))) (Int32.toNatClampNeg 1) (some (sz + 10))))))))) (sz + 10) (.inr (14, [.int 0, .int 0, .ref (sz + 11)]))) (sz + 11) (.inl (ar 9, 16, .inr (.inr (.inr (.inr (fun _ => none))))))) (sz + 12) (.inr (14, [.int 0, .int 0, .ref (sz + 13)]))) (sz + 13) (.inl (ar 9, 16, .inr (.inr (.inr (.inr (fun _ => none))))))) (sz + 14) (sz + 1) (sz + 12) 2 (sz + 9) 2 (va_up (va_up (fun _ => none) (Int32.toNatClampNeg 0) (some (sz + 7))) (Int32.toNatClampNeg 1) (some (sz + 10))) 0 0 (some (sz + 13)) (g_up_o (by omega) (g_up_o (by omega) (g_up_o (by omega) (g_up_o (by omega) (g_up_o (by omega) (g_up_o (by omega) (g_up_o (by omega) (g_up_o (by omega) (g_up_o (by omega) (g_up_o (by omega) (g_up_o (by omega) (g_up_o (by omega) g_up_s)))))))))))) (g_up_o (by omega) (g_up_o (by omega) (g_up_o (by omega) (g_up_o (by omega) g_up_s)))) (g_up_o (by omega) g_up_s) (by decide) (vp_in_nI (n := 2) (by decide) (by decide))) (k_RX15_50 S.2.2.2.2 ⟨Nat.le_of_ble_eq_true rfl, Nat.le_of_ble_eq_true rfl⟩) (g_up_o (by omega) (g_up_o (by omega) (g_up_o (by omega) (g_up_o (by omega) (g_up_o (by omega) (g_up_o (by omega) (g_up_o (by omega) (g_up_o (by omega) (g_up_o (by omega) (g_up_o (by omega) (g_up_o (by omega) (g_up_o (by omega) g_up_s)))))))))))) rfl rfl rfl rfl (Nat.le_of_ble_eq_true rfl) dX15_init_159 ⟨Nat.le_of_ble_eq_true rfl, Nat.le_of_ble_eq_true rfl⟩) (fun r u H locs hp hnz w => ?_)
  obtain ⟨rfl, rfl⟩ := hp
  dsimp only at w
  have w := g_eqw w ((g_cng (g_inn (g_inn (g_inn (g_inn (g_inn (g_inn (g_inn (g_inn (g_inn (g_inn (g_inn (g_inn g_over (by omega)) (by omega)) (by omega)) (by omega)) (by omega)) (by omega)) (by omega)) (by omega)) (by omega)) (by omega)) (by omega)) (by omega))).trans (g_inn (g_inn (g_inn (g_inn g_over (by omega)) (by omega)) (by omega)) (by omega)))
  rw [show ((2 + 1) : Int32) = 3 from by decide +kernel] at w
  refine lv_pop hx hb dX15_init_162 rfl ?_
  exact g_vret hx hb hr hlk w (Nat.le_of_ble_eq_true rfl) (Nat.le_of_ble_eq_true rfl) dX15_init_163 rfl
