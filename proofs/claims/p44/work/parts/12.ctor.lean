theorem dX0_init_0 : decode cX0_init 0 = .ok (.aload_n 0, 1) := by decide +kernel
theorem dX0_init_1 : decode cX0_init 1 = .ok (.invokespecial 3, 3) := by decide +kernel
theorem dX0_init_4 : decode cX0_init 4 = .ok (.aload_n 0, 1) := by decide +kernel
theorem dX0_init_5 : decode cX0_init 5 = .ok (.bipush 12, 2) := by decide +kernel
theorem dX0_init_7 : decode cX0_init 7 = .ok (.newarray .int, 2) := by decide +kernel
theorem dX0_init_9 : decode cX0_init 9 = .ok (.putfield 9, 3) := by decide +kernel
theorem dX0_init_12 : decode cX0_init 12 = .ok (.aload_n 0, 1) := by decide +kernel
theorem dX0_init_13 : decode cX0_init 13 = .ok (.bipush 12, 2) := by decide +kernel
theorem dX0_init_15 : decode cX0_init 15 = .ok (.newarray .int, 2) := by decide +kernel
theorem dX0_init_17 : decode cX0_init 17 = .ok (.putfield 15, 3) := by decide +kernel
theorem dX0_init_20 : decode cX0_init 20 = .ok (.aload_n 0, 1) := by decide +kernel
theorem dX0_init_21 : decode cX0_init 21 = .ok (.iconst 3, 1) := by decide +kernel
theorem dX0_init_22 : decode cX0_init 22 = .ok (.putfield 18, 3) := by decide +kernel
theorem dX0_init_25 : decode cX0_init 25 = .ok (.aload_n 0, 1) := by decide +kernel
theorem dX0_init_26 : decode cX0_init 26 = .ok (.getfield 9, 3) := by decide +kernel
theorem dX0_init_29 : decode cX0_init 29 = .ok (.iconst 0, 1) := by decide +kernel
theorem dX0_init_30 : decode cX0_init 30 = .ok (.iconst (-1), 1) := by decide +kernel
theorem dX0_init_31 : decode cX0_init 31 = .ok (.iastore, 1) := by decide +kernel
theorem dX0_init_32 : decode cX0_init 32 = .ok (.return_, 1) := by decide +kernel
theorem dX3_init_0 : decode cX3_init 0 = .ok (.aload_n 0, 1) := by decide +kernel
theorem dX3_init_1 : decode cX3_init 1 = .ok (.invokespecial 3, 3) := by decide +kernel
theorem dX3_init_4 : decode cX3_init 4 = .ok (.aload_n 0, 1) := by decide +kernel
theorem dX3_init_5 : decode cX3_init 5 = .ok (.bipush 24, 2) := by decide +kernel
theorem dX3_init_7 : decode cX3_init 7 = .ok (.newarray .char, 2) := by decide +kernel
theorem dX3_init_9 : decode cX3_init 9 = .ok (.putfield 9, 3) := by decide +kernel
theorem dX3_init_12 : decode cX3_init 12 = .ok (.aload_n 0, 1) := by decide +kernel
theorem dX3_init_13 : decode cX3_init 13 = .ok (.bipush 24, 2) := by decide +kernel
theorem dX3_init_15 : decode cX3_init 15 = .ok (.newarray .int, 2) := by decide +kernel
theorem dX3_init_17 : decode cX3_init 17 = .ok (.putfield 15, 3) := by decide +kernel
theorem dX3_init_20 : decode cX3_init 20 = .ok (.aload_n 0, 1) := by decide +kernel
theorem dX3_init_21 : decode cX3_init 21 = .ok (.bipush 24, 2) := by decide +kernel
theorem dX3_init_23 : decode cX3_init 23 = .ok (.newarray .int, 2) := by decide +kernel
theorem dX3_init_25 : decode cX3_init 25 = .ok (.putfield 19, 3) := by decide +kernel
theorem dX3_init_28 : decode cX3_init 28 = .ok (.aload_n 0, 1) := by decide +kernel
theorem dX3_init_29 : decode cX3_init 29 = .ok (.bipush 24, 2) := by decide +kernel
theorem dX3_init_31 : decode cX3_init 31 = .ok (.newarray .int, 2) := by decide +kernel
theorem dX3_init_33 : decode cX3_init 33 = .ok (.putfield 22, 3) := by decide +kernel
theorem dX3_init_36 : decode cX3_init 36 = .ok (.aload_n 0, 1) := by decide +kernel
theorem dX3_init_37 : decode cX3_init 37 = .ok (.bipush 24, 2) := by decide +kernel
theorem dX3_init_39 : decode cX3_init 39 = .ok (.newarray .int, 2) := by decide +kernel
theorem dX3_init_41 : decode cX3_init 41 = .ok (.putfield 25, 3) := by decide +kernel
theorem dX3_init_44 : decode cX3_init 44 = .ok (.aload_n 0, 1) := by decide +kernel
theorem dX3_init_45 : decode cX3_init 45 = .ok (.iconst 0, 1) := by decide +kernel
theorem dX3_init_46 : decode cX3_init 46 = .ok (.putfield 28, 3) := by decide +kernel
theorem dX3_init_49 : decode cX3_init 49 = .ok (.aload_n 0, 1) := by decide +kernel
theorem dX3_init_50 : decode cX3_init 50 = .ok (.iconst 0, 1) := by decide +kernel
theorem dX3_init_51 : decode cX3_init 51 = .ok (.putfield 32, 3) := by decide +kernel
theorem dX3_init_54 : decode cX3_init 54 = .ok (.return_, 1) := by decide +kernel
theorem dX4_init_0 : decode cX4_init 0 = .ok (.aload_n 0, 1) := by decide +kernel
theorem dX4_init_1 : decode cX4_init 1 = .ok (.invokespecial 3, 3) := by decide +kernel
theorem dX4_init_4 : decode cX4_init 4 = .ok (.aload_n 0, 1) := by decide +kernel
theorem dX4_init_5 : decode cX4_init 5 = .ok (.bipush 8, 2) := by decide +kernel
theorem dX4_init_7 : decode cX4_init 7 = .ok (.newarray .long, 2) := by decide +kernel
theorem dX4_init_9 : decode cX4_init 9 = .ok (.putfield 9, 3) := by decide +kernel
theorem dX4_init_12 : decode cX4_init 12 = .ok (.aload_n 0, 1) := by decide +kernel
theorem dX4_init_13 : decode cX4_init 13 = .ok (.iconst 0, 1) := by decide +kernel
theorem dX4_init_14 : decode cX4_init 14 = .ok (.putfield 15, 3) := by decide +kernel
theorem dX4_init_17 : decode cX4_init 17 = .ok (.aload_n 0, 1) := by decide +kernel
theorem dX4_init_18 : decode cX4_init 18 = .ok (.iconst 0, 1) := by decide +kernel
theorem dX4_init_19 : decode cX4_init 19 = .ok (.putfield 19, 3) := by decide +kernel
theorem dX4_init_22 : decode cX4_init 22 = .ok (.aload_n 0, 1) := by decide +kernel
theorem dX4_init_23 : decode cX4_init 23 = .ok (.iconst 0, 1) := by decide +kernel
theorem dX4_init_24 : decode cX4_init 24 = .ok (.putfield 22, 3) := by decide +kernel
theorem dX4_init_27 : decode cX4_init 27 = .ok (.aload_n 0, 1) := by decide +kernel
theorem dX4_init_28 : decode cX4_init 28 = .ok (.iconst 0, 1) := by decide +kernel
theorem dX4_init_29 : decode cX4_init 29 = .ok (.putfield 25, 3) := by decide +kernel
theorem dX4_init_32 : decode cX4_init 32 = .ok (.return_, 1) := by decide +kernel
theorem dX1_init_0 : decode cX1_init 0 = .ok (.aload_n 0, 1) := by decide +kernel
theorem dX1_init_1 : decode cX1_init 1 = .ok (.invokespecial 3, 3) := by decide +kernel
theorem dX1_init_4 : decode cX1_init 4 = .ok (.aload_n 0, 1) := by decide +kernel
theorem dX1_init_5 : decode cX1_init 5 = .ok (.iconst 2, 1) := by decide +kernel
theorem dX1_init_6 : decode cX1_init 6 = .ok (.newarray .long, 2) := by decide +kernel
theorem dX1_init_8 : decode cX1_init 8 = .ok (.putfield 9, 3) := by decide +kernel
theorem dX1_init_11 : decode cX1_init 11 = .ok (.aload_n 0, 1) := by decide +kernel
theorem dX1_init_12 : decode cX1_init 12 = .ok (.iconst 4, 1) := by decide +kernel
theorem dX1_init_13 : decode cX1_init 13 = .ok (.newarray .long, 2) := by decide +kernel
theorem dX1_init_15 : decode cX1_init 15 = .ok (.putfield 15, 3) := by decide +kernel
theorem dX1_init_18 : decode cX1_init 18 = .ok (.aload_n 0, 1) := by decide +kernel
theorem dX1_init_19 : decode cX1_init 19 = .ok (.bipush 8, 2) := by decide +kernel
theorem dX1_init_21 : decode cX1_init 21 = .ok (.newarray .long, 2) := by decide +kernel
theorem dX1_init_23 : decode cX1_init 23 = .ok (.putfield 18, 3) := by decide +kernel
theorem dX1_init_26 : decode cX1_init 26 = .ok (.aload_n 0, 1) := by decide +kernel
theorem dX1_init_27 : decode cX1_init 27 = .ok (.aconst_null, 1) := by decide +kernel
theorem dX1_init_28 : decode cX1_init 28 = .ok (.putfield 21, 3) := by decide +kernel
theorem dX1_init_31 : decode cX1_init 31 = .ok (.aload_n 0, 1) := by decide +kernel
theorem dX1_init_32 : decode cX1_init 32 = .ok (.ldc2_w 25, 3) := by decide +kernel
theorem dX1_init_35 : decode cX1_init 35 = .ok (.putfield 27, 3) := by decide +kernel
theorem dX1_init_38 : decode cX1_init 38 = .ok (.aload_n 0, 1) := by decide +kernel
theorem dX1_init_39 : decode cX1_init 39 = .ok (.iconst 0, 1) := by decide +kernel
theorem dX1_init_40 : decode cX1_init 40 = .ok (.putfield 31, 3) := by decide +kernel
theorem dX1_init_43 : decode cX1_init 43 = .ok (.aload_n 0, 1) := by decide +kernel
theorem dX1_init_44 : decode cX1_init 44 = .ok (.iconst 0, 1) := by decide +kernel
theorem dX1_init_45 : decode cX1_init 45 = .ok (.putfield 35, 3) := by decide +kernel
theorem dX1_init_48 : decode cX1_init 48 = .ok (.return_, 1) := by decide +kernel
theorem dJxa1e45_init_da8c8_0 : decode cJxa1e45_init_da8c8 0 = .ok (.aload_n 0, 1) := by decide +kernel
theorem dJxa1e45_init_da8c8_1 : decode cJxa1e45_init_da8c8 1 = .ok (.invokespecial 1, 3) := by decide +kernel
theorem dJxa1e45_init_da8c8_4 : decode cJxa1e45_init_da8c8 4 = .ok (.return_, 1) := by decide +kernel
theorem dJxc12de_init_da8c8_0 : decode cJxc12de_init_da8c8 0 = .ok (.aload_n 0, 1) := by decide +kernel
theorem dJxc12de_init_da8c8_1 : decode cJxc12de_init_da8c8 1 = .ok (.invokespecial 1, 3) := by decide +kernel
theorem dJxc12de_init_da8c8_4 : decode cJxc12de_init_da8c8 4 = .ok (.aload_n 0, 1) := by decide +kernel
theorem dJxc12de_init_da8c8_5 : decode cJxc12de_init_da8c8 5 = .ok (.iconst 0, 1) := by decide +kernel
theorem dJxc12de_init_da8c8_6 : decode cJxc12de_init_da8c8 6 = .ok (.putfield 7, 3) := by decide +kernel
theorem dJxc12de_init_da8c8_9 : decode cJxc12de_init_da8c8 9 = .ok (.return_, 1) := by decide +kernel
theorem dJx4a65c_init_da8c8_0 : decode cJx4a65c_init_da8c8 0 = .ok (.aload_n 0, 1) := by decide +kernel
theorem dJx4a65c_init_da8c8_1 : decode cJx4a65c_init_da8c8 1 = .ok (.invokespecial 1, 3) := by decide +kernel
theorem dJx4a65c_init_da8c8_4 : decode cJx4a65c_init_da8c8 4 = .ok (.aload_n 0, 1) := by decide +kernel
theorem dJx4a65c_init_da8c8_5 : decode cJx4a65c_init_da8c8 5 = .ok (.getstatic 39, 3) := by decide +kernel
theorem dJx4a65c_init_da8c8_8 : decode cJx4a65c_init_da8c8 8 = .ok (.putfield 9, 3) := by decide +kernel
theorem dJx4a65c_init_da8c8_11 : decode cJx4a65c_init_da8c8 11 = .ok (.return_, 1) := by decide +kernel
theorem dX7_init_0 : decode cX7_init 0 = .ok (.aload_n 0, 1) := by decide +kernel
theorem dX7_init_1 : decode cX7_init 1 = .ok (.invokespecial 3, 3) := by decide +kernel
theorem dX7_init_4 : decode cX7_init 4 = .ok (.aload_n 0, 1) := by decide +kernel
theorem dX7_init_5 : decode cX7_init 5 = .ok (.new 9, 3) := by decide +kernel
theorem dX7_init_8 : decode cX7_init 8 = .ok (.dup, 1) := by decide +kernel
theorem dX7_init_9 : decode cX7_init 9 = .ok (.invokespecial 11, 3) := by decide +kernel
theorem dX7_init_12 : decode cX7_init 12 = .ok (.putfield 12, 3) := by decide +kernel
theorem dX7_init_15 : decode cX7_init 15 = .ok (.aload_n 0, 1) := by decide +kernel
theorem dX7_init_16 : decode cX7_init 16 = .ok (.iconst 0, 1) := by decide +kernel
theorem dX7_init_17 : decode cX7_init 17 = .ok (.putfield 18, 3) := by decide +kernel
theorem dX7_init_20 : decode cX7_init 20 = .ok (.aload_n 0, 1) := by decide +kernel
theorem dX7_init_21 : decode cX7_init 21 = .ok (.lconst 0, 1) := by decide +kernel
theorem dX7_init_22 : decode cX7_init 22 = .ok (.putfield 22, 3) := by decide +kernel
theorem dX7_init_25 : decode cX7_init 25 = .ok (.aload_n 0, 1) := by decide +kernel
theorem dX7_init_26 : decode cX7_init 26 = .ok (.lconst 1, 1) := by decide +kernel
theorem dX7_init_27 : decode cX7_init 27 = .ok (.putfield 26, 3) := by decide +kernel
theorem dX7_init_30 : decode cX7_init 30 = .ok (.return_, 1) := by decide +kernel
theorem dJ7_fill_d0a16_0 : decode cJ7_fill_d0a16 0 = .ok (.iconst 0, 1) := by decide +kernel
theorem dJ7_fill_d0a16_1 : decode cJ7_fill_d0a16 1 = .ok (.istore_n 3, 1) := by decide +kernel
theorem dJ7_fill_d0a16_2 : decode cJ7_fill_d0a16 2 = .ok (.aload_n 0, 1) := by decide +kernel
theorem dJ7_fill_d0a16_3 : decode cJ7_fill_d0a16 3 = .ok (.arraylength, 1) := by decide +kernel
theorem dJ7_fill_d0a16_4 : decode cJ7_fill_d0a16 4 = .ok (.istore 4, 2) := by decide +kernel
theorem dJ7_fill_d0a16_6 : decode cJ7_fill_d0a16 6 = .ok (.iload_n 3, 1) := by decide +kernel
theorem dJ7_fill_d0a16_7 : decode cJ7_fill_d0a16 7 = .ok (.iload 4, 2) := by decide +kernel
theorem dJ7_fill_d0a16_9 : decode cJ7_fill_d0a16 9 = .ok (.if_icmp .ge 13, 3) := by decide +kernel
theorem dJ7_fill_d0a16_12 : decode cJ7_fill_d0a16 12 = .ok (.aload_n 0, 1) := by decide +kernel
theorem dJ7_fill_d0a16_13 : decode cJ7_fill_d0a16 13 = .ok (.iload_n 3, 1) := by decide +kernel
theorem dJ7_fill_d0a16_14 : decode cJ7_fill_d0a16 14 = .ok (.lload_n 1, 1) := by decide +kernel
theorem dJ7_fill_d0a16_15 : decode cJ7_fill_d0a16 15 = .ok (.lastore, 1) := by decide +kernel
theorem dJ7_fill_d0a16_16 : decode cJ7_fill_d0a16 16 = .ok (.iinc 3 1, 3) := by decide +kernel
theorem dJ7_fill_d0a16_19 : decode cJ7_fill_d0a16 19 = .ok (.goto (-13), 3) := by decide +kernel
theorem dJ7_fill_d0a16_22 : decode cJ7_fill_d0a16 22 = .ok (.return_, 1) := by decide +kernel
section SITES
variable {p : Program} {l : Launch} {e : Env} {R : Room} {s : State} {m : MethodId} {args : Array Value} {below : List Frame} {meth : Method} {c : Code} {H : Heap} {locs : List Loc} {cells slots : Nat} {Q : State → Prop}
variable {pc : Nat} {ls : Array Slot} {rest : List Value} {D : va_G} {ar : Nat → ClassId} {κ : Nat → Nat} {A : Nat → Prop} {a : Nat} {H0 : Heap} {G : gW} {nz nL : Nat} {cc : ByteArray}
theorem m_1_53 : (Cond.methodLink RX0 3 objectInit) ∈ lwA := lwA_mk (ck_1 _ (List.mem_of_getElem? (i := 53) rfl)) rfl
theorem m_1_46 : (Cond.instanceMethod objectInit) ∈ lwA := lwA_mk (ck_1 _ (List.mem_of_getElem? (i := 46) rfl)) rfl
theorem m_obj : (Cond.code objectInit ⟨#[0xb1]⟩ 1 none) ∈ lwA := lwA_mk (ck_1 _ (List.mem_of_getElem? (i := 47) rfl)) rfl
theorem m_1_65 : (Cond.arrayClass .int) ∈ lwA := lwA_mk (ck_1 _ (List.mem_of_getElem? (i := 65) rfl)) rfl
theorem pf_RX0_9_6 {A9 : Nat → Prop} {H9 : Heap} {fs : List Value} {v : Value} (S : CallFix p m c cc nL s args lwA RX0) (hE : g_E D vwCl (gT ar) (EX1 κ) A9 s H9) (hin : meth.name = "<init>") (w : g_S D vwCl A H0 G H locs nz) (ha : G a = some (.inr (6, fs))) (hn : narrow (.array .int) v = v) (hfit : fits (.array .int) v = true) (hl : 0 < fs.length) {fs1 : List Value} (hfs : fs.set 0 v = fs1) (hdg : decode cc pc = .ok (.putfield 9, 3)) (kk : ∀ (H1 : Heap) (locs1 : List Loc), g_S D vwCl A H0 (g_up G a (.inr (6, fs1))) H1 locs1 nz → W p l e R s m args below meth c H1 locs1 cells slots Q (F0 m (pc + 3) ls rest)) : W p l e R s m args below meth c H locs cells slots Q (F0 m pc ls (v :: .ref a :: rest)) :=
  g_putF (ci := 6) (ty := (.array .int)) (C := RX0) (T := TX0) (N := 3) S.1 S.2.1 S.2.2.2.2 inA_RX0 tyX0 tyX0_ok nmX0 S.2.2.2.1 hE.1 w ha rfl 0 (by decide) (S.2.2.2.2 _ m_1_54) (fun _ h => h) rfl hin rfl (by decide +kernel) hn hfit hl hdg (fun H1 l1 w1 => kk H1 l1 (by rw [← hfs]; exact w1))
theorem pf_RX0_15_6 {A9 : Nat → Prop} {H9 : Heap} {fs : List Value} {v : Value} (S : CallFix p m c cc nL s args lwA RX0) (hE : g_E D vwCl (gT ar) (EX1 κ) A9 s H9) (hin : meth.name = "<init>") (w : g_S D vwCl A H0 G H locs nz) (ha : G a = some (.inr (6, fs))) (hn : narrow (.array .int) v = v) (hfit : fits (.array .int) v = true) (hl : 1 < fs.length) {fs1 : List Value} (hfs : fs.set 1 v = fs1) (hdg : decode cc pc = .ok (.putfield 15, 3)) (kk : ∀ (H1 : Heap) (locs1 : List Loc), g_S D vwCl A H0 (g_up G a (.inr (6, fs1))) H1 locs1 nz → W p l e R s m args below meth c H1 locs1 cells slots Q (F0 m (pc + 3) ls rest)) : W p l e R s m args below meth c H locs cells slots Q (F0 m pc ls (v :: .ref a :: rest)) :=
  g_putF (ci := 6) (ty := (.array .int)) (C := RX0) (T := TX0) (N := 3) S.1 S.2.1 S.2.2.2.2 inA_RX0 tyX0 tyX0_ok nmX0 S.2.2.2.1 hE.1 w ha rfl 1 (by decide) (S.2.2.2.2 _ m_1_55) (fun _ h => h) rfl hin rfl (by decide +kernel) hn hfit hl hdg (fun H1 l1 w1 => kk H1 l1 (by rw [← hfs]; exact w1))
theorem m_1_73 : (Cond.methodLink RX3 3 objectInit) ∈ lwA := lwA_mk (ck_1 _ (List.mem_of_getElem? (i := 73) rfl)) rfl
theorem m_1_98 : (Cond.arrayClass .char) ∈ lwA := lwA_mk (ck_1 _ (List.mem_of_getElem? (i := 98) rfl)) rfl
theorem pf_RX3_9_9 {A9 : Nat → Prop} {H9 : Heap} {fs : List Value} {v : Value} (S : CallFix p m c cc nL s args lwA RX3) (hE : g_E D vwCl (gT ar) (EX1 κ) A9 s H9) (hin : meth.name = "<init>") (w : g_S D vwCl A H0 G H locs nz) (ha : G a = some (.inr (9, fs))) (hn : narrow (.array .char) v = v) (hfit : fits (.array .char) v = true) (hl : 0 < fs.length) {fs1 : List Value} (hfs : fs.set 0 v = fs1) (hdg : decode cc pc = .ok (.putfield 9, 3)) (kk : ∀ (H1 : Heap) (locs1 : List Loc), g_S D vwCl A H0 (g_up G a (.inr (9, fs1))) H1 locs1 nz → W p l e R s m args below meth c H1 locs1 cells slots Q (F0 m (pc + 3) ls rest)) : W p l e R s m args below meth c H locs cells slots Q (F0 m pc ls (v :: .ref a :: rest)) :=
  g_putF (ci := 9) (ty := (.array .char)) (C := RX3) (T := TX3) (N := 7) S.1 S.2.1 S.2.2.2.2 inA_RX3 tyX3 tyX3_ok nmX3 S.2.2.2.1 hE.1 w ha rfl 0 (by decide) (S.2.2.2.2 _ m_1_74) (fun _ h => h) rfl hin rfl (by decide +kernel) hn hfit hl hdg (fun H1 l1 w1 => kk H1 l1 (by rw [← hfs]; exact w1))
theorem pf_RX3_15_9 {A9 : Nat → Prop} {H9 : Heap} {fs : List Value} {v : Value} (S : CallFix p m c cc nL s args lwA RX3) (hE : g_E D vwCl (gT ar) (EX1 κ) A9 s H9) (hin : meth.name = "<init>") (w : g_S D vwCl A H0 G H locs nz) (ha : G a = some (.inr (9, fs))) (hn : narrow (.array .int) v = v) (hfit : fits (.array .int) v = true) (hl : 1 < fs.length) {fs1 : List Value} (hfs : fs.set 1 v = fs1) (hdg : decode cc pc = .ok (.putfield 15, 3)) (kk : ∀ (H1 : Heap) (locs1 : List Loc), g_S D vwCl A H0 (g_up G a (.inr (9, fs1))) H1 locs1 nz → W p l e R s m args below meth c H1 locs1 cells slots Q (F0 m (pc + 3) ls rest)) : W p l e R s m args below meth c H locs cells slots Q (F0 m pc ls (v :: .ref a :: rest)) :=
  g_putF (ci := 9) (ty := (.array .int)) (C := RX3) (T := TX3) (N := 7) S.1 S.2.1 S.2.2.2.2 inA_RX3 tyX3 tyX3_ok nmX3 S.2.2.2.1 hE.1 w ha rfl 1 (by decide) (S.2.2.2.2 _ m_1_75) (fun _ h => h) rfl hin rfl (by decide +kernel) hn hfit hl hdg (fun H1 l1 w1 => kk H1 l1 (by rw [← hfs]; exact w1))
theorem pf_RX3_19_9 {A9 : Nat → Prop} {H9 : Heap} {fs : List Value} {v : Value} (S : CallFix p m c cc nL s args lwA RX3) (hE : g_E D vwCl (gT ar) (EX1 κ) A9 s H9) (hin : meth.name = "<init>") (w : g_S D vwCl A H0 G H locs nz) (ha : G a = some (.inr (9, fs))) (hn : narrow (.array .int) v = v) (hfit : fits (.array .int) v = true) (hl : 2 < fs.length) {fs1 : List Value} (hfs : fs.set 2 v = fs1) (hdg : decode cc pc = .ok (.putfield 19, 3)) (kk : ∀ (H1 : Heap) (locs1 : List Loc), g_S D vwCl A H0 (g_up G a (.inr (9, fs1))) H1 locs1 nz → W p l e R s m args below meth c H1 locs1 cells slots Q (F0 m (pc + 3) ls rest)) : W p l e R s m args below meth c H locs cells slots Q (F0 m pc ls (v :: .ref a :: rest)) :=
  g_putF (ci := 9) (ty := (.array .int)) (C := RX3) (T := TX3) (N := 7) S.1 S.2.1 S.2.2.2.2 inA_RX3 tyX3 tyX3_ok nmX3 S.2.2.2.1 hE.1 w ha rfl 2 (by decide) (S.2.2.2.2 _ m_1_76) (fun _ h => h) rfl hin rfl (by decide +kernel) hn hfit hl hdg (fun H1 l1 w1 => kk H1 l1 (by rw [← hfs]; exact w1))
theorem m_1_77 : (Cond.fieldLink RX3 22 "Sendhouse$Rows" "depths" "[I") ∈ lwA := lwA_mk (ck_1 _ (List.mem_of_getElem? (i := 77) rfl)) rfl
theorem pf_RX3_22_9 {A9 : Nat → Prop} {H9 : Heap} {fs : List Value} {v : Value} (S : CallFix p m c cc nL s args lwA RX3) (hE : g_E D vwCl (gT ar) (EX1 κ) A9 s H9) (hin : meth.name = "<init>") (w : g_S D vwCl A H0 G H locs nz) (ha : G a = some (.inr (9, fs))) (hn : narrow (.array .int) v = v) (hfit : fits (.array .int) v = true) (hl : 3 < fs.length) {fs1 : List Value} (hfs : fs.set 3 v = fs1) (hdg : decode cc pc = .ok (.putfield 22, 3)) (kk : ∀ (H1 : Heap) (locs1 : List Loc), g_S D vwCl A H0 (g_up G a (.inr (9, fs1))) H1 locs1 nz → W p l e R s m args below meth c H1 locs1 cells slots Q (F0 m (pc + 3) ls rest)) : W p l e R s m args below meth c H locs cells slots Q (F0 m pc ls (v :: .ref a :: rest)) :=
  g_putF (ci := 9) (ty := (.array .int)) (C := RX3) (T := TX3) (N := 7) S.1 S.2.1 S.2.2.2.2 inA_RX3 tyX3 tyX3_ok nmX3 S.2.2.2.1 hE.1 w ha rfl 3 (by decide) (S.2.2.2.2 _ m_1_77) (fun _ h => h) rfl hin rfl (by decide +kernel) hn hfit hl hdg (fun H1 l1 w1 => kk H1 l1 (by rw [← hfs]; exact w1))
theorem m_1_78 : (Cond.fieldLink RX3 25 "Sendhouse$Rows" "comeTo" "[I") ∈ lwA := lwA_mk (ck_1 _ (List.mem_of_getElem? (i := 78) rfl)) rfl
theorem pf_RX3_25_9 {A9 : Nat → Prop} {H9 : Heap} {fs : List Value} {v : Value} (S : CallFix p m c cc nL s args lwA RX3) (hE : g_E D vwCl (gT ar) (EX1 κ) A9 s H9) (hin : meth.name = "<init>") (w : g_S D vwCl A H0 G H locs nz) (ha : G a = some (.inr (9, fs))) (hn : narrow (.array .int) v = v) (hfit : fits (.array .int) v = true) (hl : 4 < fs.length) {fs1 : List Value} (hfs : fs.set 4 v = fs1) (hdg : decode cc pc = .ok (.putfield 25, 3)) (kk : ∀ (H1 : Heap) (locs1 : List Loc), g_S D vwCl A H0 (g_up G a (.inr (9, fs1))) H1 locs1 nz → W p l e R s m args below meth c H1 locs1 cells slots Q (F0 m (pc + 3) ls rest)) : W p l e R s m args below meth c H locs cells slots Q (F0 m pc ls (v :: .ref a :: rest)) :=
  g_putF (ci := 9) (ty := (.array .int)) (C := RX3) (T := TX3) (N := 7) S.1 S.2.1 S.2.2.2.2 inA_RX3 tyX3 tyX3_ok nmX3 S.2.2.2.1 hE.1 w ha rfl 4 (by decide) (S.2.2.2.2 _ m_1_78) (fun _ h => h) rfl hin rfl (by decide +kernel) hn hfit hl hdg (fun H1 l1 w1 => kk H1 l1 (by rw [← hfs]; exact w1))
theorem m_1_81 : (Cond.fieldLink RX3 32 "Sendhouse$Rows" "comeToCount" "I") ∈ lwA := lwA_mk (ck_1 _ (List.mem_of_getElem? (i := 81) rfl)) rfl
theorem pf_RX3_32_9 {A9 : Nat → Prop} {H9 : Heap} {fs : List Value} {v : Value} (S : CallFix p m c cc nL s args lwA RX3) (hE : g_E D vwCl (gT ar) (EX1 κ) A9 s H9) (w : g_S D vwCl A H0 G H locs nz) (ha : G a = some (.inr (9, fs))) (hn : narrow .int v = v) (hfit : fits .int v = true) (hl : 6 < fs.length) {fs1 : List Value} (hfs : fs.set 6 v = fs1) (hdg : decode cc pc = .ok (.putfield 32, 3)) (kk : ∀ (H1 : Heap) (locs1 : List Loc), g_S D vwCl A H0 (g_up G a (.inr (9, fs1))) H1 locs1 nz → W p l e R s m args below meth c H1 locs1 cells slots Q (F0 m (pc + 3) ls rest)) : W p l e R s m args below meth c H locs cells slots Q (F0 m pc ls (v :: .ref a :: rest)) :=
  g_put (ci := 9) (ty := .int) (C := RX3) (T := TX3) (N := 7) S.1 S.2.1 S.2.2.2.2 inA_RX3 tyX3 tyX3_ok nmX3 S.2.2.2.1 hE.1 w ha rfl 6 (by decide) (S.2.2.2.2 _ m_1_81) (fun _ h => h) rfl (by decide +kernel) hn hfit hl hdg (fun H1 l1 w1 => kk H1 l1 (by rw [← hfs]; exact w1))
theorem m_1_111 : (Cond.methodLink RX4 3 objectInit) ∈ lwA := lwA_mk (ck_1 _ (List.mem_of_getElem? (i := 111) rfl)) rfl
theorem m_1_137 : (Cond.arrayClass .long) ∈ lwA := lwA_mk (ck_1 _ (List.mem_of_getElem? (i := 137) rfl)) rfl
theorem inA_RX4 : ∀ w ∈ u_ws RX4 TX4 5, w ∈ lwA := gA_r _ [167, 169, 171, 173, 175] (by decide +kernel) (by decide +kernel)
theorem m_1_112 : (Cond.fieldLink RX4 9 "Sendhouse$Thing" "places" "[J") ∈ lwA := lwA_mk (ck_1 _ (List.mem_of_getElem? (i := 112) rfl)) rfl
theorem pf_RX4_9_10 {A9 : Nat → Prop} {H9 : Heap} {fs : List Value} {v : Value} (S : CallFix p m c cc nL s args lwA RX4) (hE : g_E D vwCl (gT ar) (EX1 κ) A9 s H9) (hin : meth.name = "<init>") (w : g_S D vwCl A H0 G H locs nz) (ha : G a = some (.inr (10, fs))) (hn : narrow (.array .long) v = v) (hfit : fits (.array .long) v = true) (hl : 0 < fs.length) {fs1 : List Value} (hfs : fs.set 0 v = fs1) (hdg : decode cc pc = .ok (.putfield 9, 3)) (kk : ∀ (H1 : Heap) (locs1 : List Loc), g_S D vwCl A H0 (g_up G a (.inr (10, fs1))) H1 locs1 nz → W p l e R s m args below meth c H1 locs1 cells slots Q (F0 m (pc + 3) ls rest)) : W p l e R s m args below meth c H locs cells slots Q (F0 m pc ls (v :: .ref a :: rest)) :=
  g_putF (ci := 10) (ty := (.array .long)) (C := RX4) (T := TX4) (N := 5) S.1 S.2.1 S.2.2.2.2 inA_RX4 tyX4 tyX4_ok nmX4 S.2.2.2.1 hE.1 w ha rfl 0 (by decide) (S.2.2.2.2 _ m_1_112) (fun _ h => h) rfl hin rfl (by decide +kernel) hn hfit hl hdg (fun H1 l1 w1 => kk H1 l1 (by rw [← hfs]; exact w1))
theorem m_1_115 : (Cond.fieldLink RX4 15 "Sendhouse$Thing" "number" "I") ∈ lwA := lwA_mk (ck_1 _ (List.mem_of_getElem? (i := 115) rfl)) rfl
theorem pf_RX4_15_10 {A9 : Nat → Prop} {H9 : Heap} {fs : List Value} {v : Value} (S : CallFix p m c cc nL s args lwA RX4) (hE : g_E D vwCl (gT ar) (EX1 κ) A9 s H9) (w : g_S D vwCl A H0 G H locs nz) (ha : G a = some (.inr (10, fs))) (hn : narrow .int v = v) (hfit : fits .int v = true) (hl : 1 < fs.length) {fs1 : List Value} (hfs : fs.set 1 v = fs1) (hdg : decode cc pc = .ok (.putfield 15, 3)) (kk : ∀ (H1 : Heap) (locs1 : List Loc), g_S D vwCl A H0 (g_up G a (.inr (10, fs1))) H1 locs1 nz → W p l e R s m args below meth c H1 locs1 cells slots Q (F0 m (pc + 3) ls rest)) : W p l e R s m args below meth c H locs cells slots Q (F0 m pc ls (v :: .ref a :: rest)) :=
  g_put (ci := 10) (ty := .int) (C := RX4) (T := TX4) (N := 5) S.1 S.2.1 S.2.2.2.2 inA_RX4 tyX4 tyX4_ok nmX4 S.2.2.2.1 hE.1 w ha rfl 1 (by decide) (S.2.2.2.2 _ m_1_115) (fun _ h => h) rfl (by decide +kernel) hn hfit hl hdg (fun H1 l1 w1 => kk H1 l1 (by rw [← hfs]; exact w1))
theorem m_1_118 : (Cond.fieldLink RX4 19 "Sendhouse$Thing" "cls" "I") ∈ lwA := lwA_mk (ck_1 _ (List.mem_of_getElem? (i := 118) rfl)) rfl
theorem pf_RX4_19_10 {A9 : Nat → Prop} {H9 : Heap} {fs : List Value} {v : Value} (S : CallFix p m c cc nL s args lwA RX4) (hE : g_E D vwCl (gT ar) (EX1 κ) A9 s H9) (w : g_S D vwCl A H0 G H locs nz) (ha : G a = some (.inr (10, fs))) (hn : narrow .int v = v) (hfit : fits .int v = true) (hl : 2 < fs.length) {fs1 : List Value} (hfs : fs.set 2 v = fs1) (hdg : decode cc pc = .ok (.putfield 19, 3)) (kk : ∀ (H1 : Heap) (locs1 : List Loc), g_S D vwCl A H0 (g_up G a (.inr (10, fs1))) H1 locs1 nz → W p l e R s m args below meth c H1 locs1 cells slots Q (F0 m (pc + 3) ls rest)) : W p l e R s m args below meth c H locs cells slots Q (F0 m pc ls (v :: .ref a :: rest)) :=
  g_put (ci := 10) (ty := .int) (C := RX4) (T := TX4) (N := 5) S.1 S.2.1 S.2.2.2.2 inA_RX4 tyX4 tyX4_ok nmX4 S.2.2.2.1 hE.1 w ha rfl 2 (by decide) (S.2.2.2.2 _ m_1_118) (fun _ h => h) rfl (by decide +kernel) hn hfit hl hdg (fun H1 l1 w1 => kk H1 l1 (by rw [← hfs]; exact w1))
theorem m_1_121 : (Cond.fieldLink RX4 22 "Sendhouse$Thing" "size" "I") ∈ lwA := lwA_mk (ck_1 _ (List.mem_of_getElem? (i := 121) rfl)) rfl
theorem pf_RX4_22_10 {A9 : Nat → Prop} {H9 : Heap} {fs : List Value} {v : Value} (S : CallFix p m c cc nL s args lwA RX4) (hE : g_E D vwCl (gT ar) (EX1 κ) A9 s H9) (w : g_S D vwCl A H0 G H locs nz) (ha : G a = some (.inr (10, fs))) (hn : narrow .int v = v) (hfit : fits .int v = true) (hl : 3 < fs.length) {fs1 : List Value} (hfs : fs.set 3 v = fs1) (hdg : decode cc pc = .ok (.putfield 22, 3)) (kk : ∀ (H1 : Heap) (locs1 : List Loc), g_S D vwCl A H0 (g_up G a (.inr (10, fs1))) H1 locs1 nz → W p l e R s m args below meth c H1 locs1 cells slots Q (F0 m (pc + 3) ls rest)) : W p l e R s m args below meth c H locs cells slots Q (F0 m pc ls (v :: .ref a :: rest)) :=
  g_put (ci := 10) (ty := .int) (C := RX4) (T := TX4) (N := 5) S.1 S.2.1 S.2.2.2.2 inA_RX4 tyX4 tyX4_ok nmX4 S.2.2.2.1 hE.1 w ha rfl 3 (by decide) (S.2.2.2.2 _ m_1_121) (fun _ h => h) rfl (by decide +kernel) hn hfit hl hdg (fun H1 l1 w1 => kk H1 l1 (by rw [← hfs]; exact w1))
theorem m_1_124 : (Cond.fieldLink RX4 25 "Sendhouse$Thing" "reached" "Z") ∈ lwA := lwA_mk (ck_1 _ (List.mem_of_getElem? (i := 124) rfl)) rfl
theorem pf_RX4_25_10 {A9 : Nat → Prop} {H9 : Heap} {fs : List Value} {v : Value} (S : CallFix p m c cc nL s args lwA RX4) (hE : g_E D vwCl (gT ar) (EX1 κ) A9 s H9) (w : g_S D vwCl A H0 G H locs nz) (ha : G a = some (.inr (10, fs))) (hn : narrow .boolean v = v) (hfit : fits .boolean v = true) (hl : 4 < fs.length) {fs1 : List Value} (hfs : fs.set 4 v = fs1) (hdg : decode cc pc = .ok (.putfield 25, 3)) (kk : ∀ (H1 : Heap) (locs1 : List Loc), g_S D vwCl A H0 (g_up G a (.inr (10, fs1))) H1 locs1 nz → W p l e R s m args below meth c H1 locs1 cells slots Q (F0 m (pc + 3) ls rest)) : W p l e R s m args below meth c H locs cells slots Q (F0 m pc ls (v :: .ref a :: rest)) :=
  g_put (ci := 10) (ty := .boolean) (C := RX4) (T := TX4) (N := 5) S.1 S.2.1 S.2.2.2.2 inA_RX4 tyX4 tyX4_ok nmX4 S.2.2.2.1 hE.1 w ha rfl 4 (by decide) (S.2.2.2.2 _ m_1_124) (fun _ h => h) rfl (by decide +kernel) hn hfit hl hdg (fun H1 l1 w1 => kk H1 l1 (by rw [← hfs]; exact w1))
theorem m_1_216 : (Cond.methodLink RX1 3 objectInit) ∈ lwA := lwA_mk (ck_1 _ (List.mem_of_getElem? (i := 216) rfl)) rfl
theorem inA_RX1 : ∀ w ∈ u_ws RX1 TX1 7, w ∈ lwA := gA_r _ [271, 273, 275, 277, 279, 281, 283] (by decide +kernel) (by decide +kernel)
theorem m_1_218 : (Cond.fieldLink RX1 9 "Sendhouse$Frame" "arguments" "[J") ∈ lwA := lwA_mk (ck_1 _ (List.mem_of_getElem? (i := 218) rfl)) rfl
theorem pf_RX1_9_7 {A9 : Nat → Prop} {H9 : Heap} {fs : List Value} {v : Value} (S : CallFix p m c cc nL s args lwA RX1) (hE : g_E D vwCl (gT ar) (EX1 κ) A9 s H9) (hin : meth.name = "<init>") (w : g_S D vwCl A H0 G H locs nz) (ha : G a = some (.inr (7, fs))) (hn : narrow (.array .long) v = v) (hfit : fits (.array .long) v = true) (hl : 0 < fs.length) {fs1 : List Value} (hfs : fs.set 0 v = fs1) (hdg : decode cc pc = .ok (.putfield 9, 3)) (kk : ∀ (H1 : Heap) (locs1 : List Loc), g_S D vwCl A H0 (g_up G a (.inr (7, fs1))) H1 locs1 nz → W p l e R s m args below meth c H1 locs1 cells slots Q (F0 m (pc + 3) ls rest)) : W p l e R s m args below meth c H locs cells slots Q (F0 m pc ls (v :: .ref a :: rest)) :=
  g_putF (ci := 7) (ty := (.array .long)) (C := RX1) (T := TX1) (N := 7) S.1 S.2.1 S.2.2.2.2 inA_RX1 tyX1 tyX1_ok nmX1 S.2.2.2.1 hE.1 w ha rfl 0 (by decide) (S.2.2.2.2 _ m_1_218) (fun _ h => h) rfl hin rfl (by decide +kernel) hn hfit hl hdg (fun H1 l1 w1 => kk H1 l1 (by rw [← hfs]; exact w1))
theorem m_1_220 : (Cond.fieldLink RX1 15 "Sendhouse$Frame" "temporaries" "[J") ∈ lwA := lwA_mk (ck_1 _ (List.mem_of_getElem? (i := 220) rfl)) rfl
theorem pf_RX1_15_7 {A9 : Nat → Prop} {H9 : Heap} {fs : List Value} {v : Value} (S : CallFix p m c cc nL s args lwA RX1) (hE : g_E D vwCl (gT ar) (EX1 κ) A9 s H9) (hin : meth.name = "<init>") (w : g_S D vwCl A H0 G H locs nz) (ha : G a = some (.inr (7, fs))) (hn : narrow (.array .long) v = v) (hfit : fits (.array .long) v = true) (hl : 1 < fs.length) {fs1 : List Value} (hfs : fs.set 1 v = fs1) (hdg : decode cc pc = .ok (.putfield 15, 3)) (kk : ∀ (H1 : Heap) (locs1 : List Loc), g_S D vwCl A H0 (g_up G a (.inr (7, fs1))) H1 locs1 nz → W p l e R s m args below meth c H1 locs1 cells slots Q (F0 m (pc + 3) ls rest)) : W p l e R s m args below meth c H locs cells slots Q (F0 m pc ls (v :: .ref a :: rest)) :=
  g_putF (ci := 7) (ty := (.array .long)) (C := RX1) (T := TX1) (N := 7) S.1 S.2.1 S.2.2.2.2 inA_RX1 tyX1 tyX1_ok nmX1 S.2.2.2.1 hE.1 w ha rfl 1 (by decide) (S.2.2.2.2 _ m_1_220) (fun _ h => h) rfl hin rfl (by decide +kernel) hn hfit hl hdg (fun H1 l1 w1 => kk H1 l1 (by rw [← hfs]; exact w1))
theorem m_1_222 : (Cond.fieldLink RX1 18 "Sendhouse$Frame" "pile" "[J") ∈ lwA := lwA_mk (ck_1 _ (List.mem_of_getElem? (i := 222) rfl)) rfl
theorem pf_RX1_18_7 {A9 : Nat → Prop} {H9 : Heap} {fs : List Value} {v : Value} (S : CallFix p m c cc nL s args lwA RX1) (hE : g_E D vwCl (gT ar) (EX1 κ) A9 s H9) (hin : meth.name = "<init>") (w : g_S D vwCl A H0 G H locs nz) (ha : G a = some (.inr (7, fs))) (hn : narrow (.array .long) v = v) (hfit : fits (.array .long) v = true) (hl : 2 < fs.length) {fs1 : List Value} (hfs : fs.set 2 v = fs1) (hdg : decode cc pc = .ok (.putfield 18, 3)) (kk : ∀ (H1 : Heap) (locs1 : List Loc), g_S D vwCl A H0 (g_up G a (.inr (7, fs1))) H1 locs1 nz → W p l e R s m args below meth c H1 locs1 cells slots Q (F0 m (pc + 3) ls rest)) : W p l e R s m args below meth c H locs cells slots Q (F0 m pc ls (v :: .ref a :: rest)) :=
  g_putF (ci := 7) (ty := (.array .long)) (C := RX1) (T := TX1) (N := 7) S.1 S.2.1 S.2.2.2.2 inA_RX1 tyX1 tyX1_ok nmX1 S.2.2.2.1 hE.1 w ha rfl 2 (by decide) (S.2.2.2.2 _ m_1_222) (fun _ h => h) rfl hin rfl (by decide +kernel) hn hfit hl hdg (fun H1 l1 w1 => kk H1 l1 (by rw [← hfs]; exact w1))
theorem m_1_223 : (Cond.fieldLink RX1 21 "Sendhouse$Frame" "told" "LSendhouse$Told;") ∈ lwA := lwA_mk (ck_1 _ (List.mem_of_getElem? (i := 223) rfl)) rfl
theorem pf_RX1_21_7 {A9 : Nat → Prop} {H9 : Heap} {fs : List Value} {v : Value} (S : CallFix p m c cc nL s args lwA RX1) (hE : g_E D vwCl (gT ar) (EX1 κ) A9 s H9) (w : g_S D vwCl A H0 G H locs nz) (ha : G a = some (.inr (7, fs))) (hn : narrow (.object "Sendhouse$Told") v = v) (hfit : fits (.object "Sendhouse$Told") v = true) (hl : 3 < fs.length) {fs1 : List Value} (hfs : fs.set 3 v = fs1) (hdg : decode cc pc = .ok (.putfield 21, 3)) (kk : ∀ (H1 : Heap) (locs1 : List Loc), g_S D vwCl A H0 (g_up G a (.inr (7, fs1))) H1 locs1 nz → W p l e R s m args below meth c H1 locs1 cells slots Q (F0 m (pc + 3) ls rest)) : W p l e R s m args below meth c H locs cells slots Q (F0 m pc ls (v :: .ref a :: rest)) :=
  g_put (ci := 7) (ty := (.object "Sendhouse$Told")) (C := RX1) (T := TX1) (N := 7) S.1 S.2.1 S.2.2.2.2 inA_RX1 tyX1 tyX1_ok nmX1 S.2.2.2.1 hE.1 w ha rfl 3 (by decide) (S.2.2.2.2 _ m_1_223) (fun _ h => h) rfl (by decide +kernel) hn hfit hl hdg (fun H1 l1 w1 => kk H1 l1 (by rw [← hfs]; exact w1))
theorem m_1_217 : (Cond.constantLong RX1 25 (502511173632)) ∈ lwA := lwA_mk (ck_1 _ (List.mem_of_getElem? (i := 217) rfl)) rfl
theorem m_1_224 : (Cond.fieldLink RX1 27 "Sendhouse$Frame" "receiver" "J") ∈ lwA := lwA_mk (ck_1 _ (List.mem_of_getElem? (i := 224) rfl)) rfl
theorem pf_RX1_27_7 {A9 : Nat → Prop} {H9 : Heap} {fs : List Value} {v : Value} (S : CallFix p m c cc nL s args lwA RX1) (hE : g_E D vwCl (gT ar) (EX1 κ) A9 s H9) (w : g_S D vwCl A H0 G H locs nz) (ha : G a = some (.inr (7, fs))) (hn : narrow .long v = v) (hfit : fits .long v = true) (hl : 4 < fs.length) {fs1 : List Value} (hfs : fs.set 4 v = fs1) (hdg : decode cc pc = .ok (.putfield 27, 3)) (kk : ∀ (H1 : Heap) (locs1 : List Loc), g_S D vwCl A H0 (g_up G a (.inr (7, fs1))) H1 locs1 nz → W p l e R s m args below meth c H1 locs1 cells slots Q (F0 m (pc + 3) ls rest)) : W p l e R s m args below meth c H locs cells slots Q (F0 m pc ls (v :: .ref a :: rest)) :=
  g_put (ci := 7) (ty := .long) (C := RX1) (T := TX1) (N := 7) S.1 S.2.1 S.2.2.2.2 inA_RX1 tyX1 tyX1_ok nmX1 S.2.2.2.1 hE.1 w ha rfl 4 (by decide) (S.2.2.2.2 _ m_1_224) (fun _ h => h) rfl (by decide +kernel) hn hfit hl hdg (fun H1 l1 w1 => kk H1 l1 (by rw [← hfs]; exact w1))
theorem m_1_226 : (Cond.fieldLink RX1 31 "Sendhouse$Frame" "row" "I") ∈ lwA := lwA_mk (ck_1 _ (List.mem_of_getElem? (i := 226) rfl)) rfl
theorem pf_RX1_31_7 {A9 : Nat → Prop} {H9 : Heap} {fs : List Value} {v : Value} (S : CallFix p m c cc nL s args lwA RX1) (hE : g_E D vwCl (gT ar) (EX1 κ) A9 s H9) (w : g_S D vwCl A H0 G H locs nz) (ha : G a = some (.inr (7, fs))) (hn : narrow .int v = v) (hfit : fits .int v = true) (hl : 5 < fs.length) {fs1 : List Value} (hfs : fs.set 5 v = fs1) (hdg : decode cc pc = .ok (.putfield 31, 3)) (kk : ∀ (H1 : Heap) (locs1 : List Loc), g_S D vwCl A H0 (g_up G a (.inr (7, fs1))) H1 locs1 nz → W p l e R s m args below meth c H1 locs1 cells slots Q (F0 m (pc + 3) ls rest)) : W p l e R s m args below meth c H locs cells slots Q (F0 m pc ls (v :: .ref a :: rest)) :=
  g_put (ci := 7) (ty := .int) (C := RX1) (T := TX1) (N := 7) S.1 S.2.1 S.2.2.2.2 inA_RX1 tyX1 tyX1_ok nmX1 S.2.2.2.1 hE.1 w ha rfl 5 (by decide) (S.2.2.2.2 _ m_1_226) (fun _ h => h) rfl (by decide +kernel) hn hfit hl hdg (fun H1 l1 w1 => kk H1 l1 (by rw [← hfs]; exact w1))
theorem m_1_228 : (Cond.fieldLink RX1 35 "Sendhouse$Frame" "depth" "I") ∈ lwA := lwA_mk (ck_1 _ (List.mem_of_getElem? (i := 228) rfl)) rfl
theorem pf_RX1_35_7 {A9 : Nat → Prop} {H9 : Heap} {fs : List Value} {v : Value} (S : CallFix p m c cc nL s args lwA RX1) (hE : g_E D vwCl (gT ar) (EX1 κ) A9 s H9) (w : g_S D vwCl A H0 G H locs nz) (ha : G a = some (.inr (7, fs))) (hn : narrow .int v = v) (hfit : fits .int v = true) (hl : 6 < fs.length) {fs1 : List Value} (hfs : fs.set 6 v = fs1) (hdg : decode cc pc = .ok (.putfield 35, 3)) (kk : ∀ (H1 : Heap) (locs1 : List Loc), g_S D vwCl A H0 (g_up G a (.inr (7, fs1))) H1 locs1 nz → W p l e R s m args below meth c H1 locs1 cells slots Q (F0 m (pc + 3) ls rest)) : W p l e R s m args below meth c H locs cells slots Q (F0 m pc ls (v :: .ref a :: rest)) :=
  g_put (ci := 7) (ty := .int) (C := RX1) (T := TX1) (N := 7) S.1 S.2.1 S.2.2.2.2 inA_RX1 tyX1 tyX1_ok nmX1 S.2.2.2.1 hE.1 w ha rfl 6 (by decide) (S.2.2.2.2 _ m_1_228) (fun _ h => h) rfl (by decide +kernel) hn hfit hl hdg (fun H1 l1 w1 => kk H1 l1 (by rw [← hfs]; exact w1))
theorem m_1_175 : (Cond.methodLink RJxa1e45 1 objectInit) ∈ lwA := lwA_mk (ck_1 _ (List.mem_of_getElem? (i := 175) rfl)) rfl
theorem m_1_174 : (Cond.code yJxa1e45_init_da8c8 cJxa1e45_init_da8c8 1 none) ∈ lwA := lwA_mk (ck_1 _ (List.mem_of_getElem? (i := 174) rfl)) rfl
theorem m_1_7 : (Cond.initialized RJxa1e45) ∈ lwA := lwA_mk (ck_1 _ (List.mem_of_getElem? (i := 7) rfl)) rfl
theorem m_1_172 : (Cond.methodLink RJxc12de 1 yJxa1e45_init_da8c8) ∈ lwA := lwA_mk (ck_1 _ (List.mem_of_getElem? (i := 172) rfl)) rfl
theorem m_1_173 : (Cond.instanceMethod yJxa1e45_init_da8c8) ∈ lwA := lwA_mk (ck_1 _ (List.mem_of_getElem? (i := 173) rfl)) rfl
theorem k_RJxc12de_1 {args : Array Value} {s : State} {R rm : Room} (hts : ∀ w ∈ lwA, w.before args s = true) (hR : rm.frames + 1 ≤ R.frames ∧ 8 + (1 + 11) + rm.locals ≤ R.locals) : CallB R s args RJxc12de 1 yJxa1e45_init_da8c8 cJxa1e45_init_da8c8 1 none (lwC yJxa1e45_init_da8c8 cJxa1e45_init_da8c8 1 none) rm rm.cells rm.slots 0 ∧ yJxa1e45_init_da8c8.name = "<init>" ∧ (Cond.instanceMethod yJxa1e45_init_da8c8).before args s = true := cwI 0 hts (gd m_1_174) rfl rfl rfl (hts _ m_1_7) (hts _ m_1_172) (hts _ m_1_173) rfl (by decide +kernel) hR
theorem inA_RJx4a65c : ∀ w ∈ u_ws RJx4a65c TJx4a65c 3, w ∈ lwA := gA_r _ [232, 228, 230] (by decide +kernel) (by decide +kernel)
theorem m_1_181 : (Cond.fieldLink RJxc12de 7 "java/util/AbstractList" "modCount" "I") ∈ lwA := lwA_mk (ck_1 _ (List.mem_of_getElem? (i := 181) rfl)) rfl
theorem pf_RJxc12de_7_5 {A9 : Nat → Prop} {H9 : Heap} {fs : List Value} {v : Value} (S : CallFix p m c cc nL s args lwA RJxc12de) (hE : g_E D vwCl (gT ar) (EX1 κ) A9 s H9) (w : g_S D vwCl A H0 G H locs nz) (ha : G a = some (.inr (5, fs))) (hn : narrow .int v = v) (hfit : fits .int v = true) (hl : 0 < fs.length) {fs1 : List Value} (hfs : fs.set 0 v = fs1) (hdg : decode cc pc = .ok (.putfield 7, 3)) (kk : ∀ (H1 : Heap) (locs1 : List Loc), g_S D vwCl A H0 (g_up G a (.inr (5, fs1))) H1 locs1 nz → W p l e R s m args below meth c H1 locs1 cells slots Q (F0 m (pc + 3) ls rest)) : W p l e R s m args below meth c H locs cells slots Q (F0 m pc ls (v :: .ref a :: rest)) :=
  g_put (ci := 5) (ty := .int) (C := RJx4a65c) (T := TJx4a65c) (N := 3) S.1 S.2.1 S.2.2.2.2 inA_RJx4a65c tyJx4a65c tyJx4a65c_ok nmJx4a65c S.2.2.2.1 hE.1 w ha rfl 0 (by decide) (S.2.2.2.2 _ m_1_181) (fun _ h => h) rfl (by decide +kernel) hn hfit hl hdg (fun H1 l1 w1 => kk H1 l1 (by rw [← hfs]; exact w1))
theorem m_1_171 : (Cond.code yJxc12de_init_da8c8 cJxc12de_init_da8c8 1 none) ∈ lwA := lwA_mk (ck_1 _ (List.mem_of_getElem? (i := 171) rfl)) rfl
theorem m_1_8 : (Cond.initialized RJxc12de) ∈ lwA := lwA_mk (ck_1 _ (List.mem_of_getElem? (i := 8) rfl)) rfl
theorem m_1_169 : (Cond.methodLink RJx4a65c 1 yJxc12de_init_da8c8) ∈ lwA := lwA_mk (ck_1 _ (List.mem_of_getElem? (i := 169) rfl)) rfl
theorem m_1_170 : (Cond.instanceMethod yJxc12de_init_da8c8) ∈ lwA := lwA_mk (ck_1 _ (List.mem_of_getElem? (i := 170) rfl)) rfl
theorem k_RJx4a65c_1 {args : Array Value} {s : State} {R rm : Room} (hts : ∀ w ∈ lwA, w.before args s = true) (hR : rm.frames + 1 ≤ R.frames ∧ 8 + (1 + 11) + rm.locals ≤ R.locals) : CallB R s args RJx4a65c 1 yJxc12de_init_da8c8 cJxc12de_init_da8c8 1 none (lwC yJxc12de_init_da8c8 cJxc12de_init_da8c8 1 none) rm rm.cells rm.slots 0 ∧ yJxc12de_init_da8c8.name = "<init>" ∧ (Cond.instanceMethod yJxc12de_init_da8c8).before args s = true := cwI 0 hts (gd m_1_171) rfl rfl rfl (hts _ m_1_8) (hts _ m_1_169) (hts _ m_1_170) rfl (by decide +kernel) hR
theorem m_1_176 : (Cond.fieldLink RJx4a65c 39 "java/util/ArrayList" "DEFAULTCAPACITY_EMPTY_ELEMENTDATA" "[Ljava/lang/Object;") ∈ lwA := lwA_mk (ck_1 _ (List.mem_of_getElem? (i := 176) rfl)) rfl
theorem m_1_178 : (Cond.fieldLink RJx4a65c 9 "java/util/ArrayList" "elementData" "[Ljava/lang/Object;") ∈ lwA := lwA_mk (ck_1 _ (List.mem_of_getElem? (i := 178) rfl)) rfl
theorem pf_RJx4a65c_9_5 {A9 : Nat → Prop} {H9 : Heap} {fs : List Value} {v : Value} (S : CallFix p m c cc nL s args lwA RJx4a65c) (hE : g_E D vwCl (gT ar) (EX1 κ) A9 s H9) (w : g_S D vwCl A H0 G H locs nz) (ha : G a = some (.inr (5, fs))) (hn : narrow (.array (.object "java/lang/Object")) v = v) (hfit : fits (.array (.object "java/lang/Object")) v = true) (hl : 1 < fs.length) {fs1 : List Value} (hfs : fs.set 1 v = fs1) (hdg : decode cc pc = .ok (.putfield 9, 3)) (kk : ∀ (H1 : Heap) (locs1 : List Loc), g_S D vwCl A H0 (g_up G a (.inr (5, fs1))) H1 locs1 nz → W p l e R s m args below meth c H1 locs1 cells slots Q (F0 m (pc + 3) ls rest)) : W p l e R s m args below meth c H locs cells slots Q (F0 m pc ls (v :: .ref a :: rest)) :=
  g_put (ci := 5) (ty := (.array (.object "java/lang/Object"))) (C := RJx4a65c) (T := TJx4a65c) (N := 3) S.1 S.2.1 S.2.2.2.2 inA_RJx4a65c tyJx4a65c tyJx4a65c_ok nmJx4a65c S.2.2.2.1 hE.1 w ha rfl 1 (by decide) (S.2.2.2.2 _ m_1_178) (fun _ h => h) rfl (by decide +kernel) hn hfit hl hdg (fun H1 l1 w1 => kk H1 l1 (by rw [← hfs]; exact w1))
theorem m_1_163 : (Cond.methodLink RX7 3 objectInit) ∈ lwA := lwA_mk (ck_1 _ (List.mem_of_getElem? (i := 163) rfl)) rfl
theorem m_1_164 : (Cond.classLink RX7 9 RJx4a65c) ∈ lwA := lwA_mk (ck_1 _ (List.mem_of_getElem? (i := 164) rfl)) rfl
theorem m_1_165 : (Cond.instantiable RJx4a65c 3) ∈ lwA := lwA_mk (ck_1 _ (List.mem_of_getElem? (i := 165) rfl)) rfl
theorem m_1_9 : (Cond.initialized RJx4a65c) ∈ lwA := lwA_mk (ck_1 _ (List.mem_of_getElem? (i := 9) rfl)) rfl
theorem nw_RX7_9 {A9 : Nat → Prop} {H9 : Heap} (S : CallFix p m c cc nL s args lwA RX7) (hE : g_E D vwCl (gT ar) (EX1 κ) A9 s H9) (w : g_S D vwCl A H0 G H locs nz) (hcells : cells + 1 ≤ R.cells) (hslots : slots + 3 ≤ R.slots) (hdg : decode cc pc = .ok (.new 9, 3)) (kk : ∀ (H1 : Heap), g_S D vwCl A H0 (g_up G nz (.inr (5, [.int 0, .null, .int 0]))) H1 locs (nz + 1) → W p l e R s m args below meth c H1 locs (cells + 1) (slots + 3) Q (F0 m (pc + 3) ls (.ref nz :: rest))) : W p l e R s m args below meth c H locs cells slots Q (F0 m pc ls rest) :=
  g_new (ci := 5) (fs := [.int 0, .null, .int 0]) (C := RJx4a65c) (T := TJx4a65c) (N := 3) S.1 S.2.1 S.2.2.2.2 inA_RJx4a65c tyJx4a65c tyJx4a65c_ok S.2.2.2.1 (S.2.2.2.2 _ m_1_164) (S.2.2.2.2 _ m_1_165) (S.2.2.2.2 _ m_1_9) hE.1 w rfl (fun j hj => by rcases (show j = 0 ∨ j = 1 ∨ j = 2 by omega) with rfl | rfl | rfl <;> rfl) hcells hslots hdg kk
theorem m_1_168 : (Cond.code yJx4a65c_init_da8c8 cJx4a65c_init_da8c8 1 none) ∈ lwA := lwA_mk (ck_1 _ (List.mem_of_getElem? (i := 168) rfl)) rfl
theorem m_1_166 : (Cond.methodLink RX7 11 yJx4a65c_init_da8c8) ∈ lwA := lwA_mk (ck_1 _ (List.mem_of_getElem? (i := 166) rfl)) rfl
theorem m_1_167 : (Cond.instanceMethod yJx4a65c_init_da8c8) ∈ lwA := lwA_mk (ck_1 _ (List.mem_of_getElem? (i := 167) rfl)) rfl
theorem k_RX7_11 {args : Array Value} {s : State} {R rm : Room} (hts : ∀ w ∈ lwA, w.before args s = true) (hR : rm.frames + 1 ≤ R.frames ∧ 8 + (1 + 11) + rm.locals ≤ R.locals) : CallB R s args RX7 11 yJx4a65c_init_da8c8 cJx4a65c_init_da8c8 1 none (lwC yJx4a65c_init_da8c8 cJx4a65c_init_da8c8 1 none) rm rm.cells rm.slots 0 ∧ yJx4a65c_init_da8c8.name = "<init>" ∧ (Cond.instanceMethod yJx4a65c_init_da8c8).before args s = true := cwI 0 hts (gd m_1_168) rfl rfl rfl (hts _ m_1_9) (hts _ m_1_166) (hts _ m_1_167) rfl (by decide +kernel) hR
theorem inA_RX7 : ∀ w ∈ u_ws RX7 TX7 4, w ∈ lwA := gA_r _ [241, 243, 245, 247] (by decide +kernel) (by decide +kernel)
theorem m_1_194 : (Cond.fieldLink RX7 12 "Sendhouse$Written" "pages" "Ljava/util/ArrayList;") ∈ lwA := lwA_mk (ck_1 _ (List.mem_of_getElem? (i := 194) rfl)) rfl
theorem pf_RX7_12_13 {A9 : Nat → Prop} {H9 : Heap} {fs : List Value} {v : Value} (S : CallFix p m c cc nL s args lwA RX7) (hE : g_E D vwCl (gT ar) (EX1 κ) A9 s H9) (hin : meth.name = "<init>") (w : g_S D vwCl A H0 G H locs nz) (ha : G a = some (.inr (13, fs))) (hn : narrow (.object "java/util/ArrayList") v = v) (hfit : fits (.object "java/util/ArrayList") v = true) (hl : 0 < fs.length) {fs1 : List Value} (hfs : fs.set 0 v = fs1) (hdg : decode cc pc = .ok (.putfield 12, 3)) (kk : ∀ (H1 : Heap) (locs1 : List Loc), g_S D vwCl A H0 (g_up G a (.inr (13, fs1))) H1 locs1 nz → W p l e R s m args below meth c H1 locs1 cells slots Q (F0 m (pc + 3) ls rest)) : W p l e R s m args below meth c H locs cells slots Q (F0 m pc ls (v :: .ref a :: rest)) :=
  g_putF (ci := 13) (ty := (.object "java/util/ArrayList")) (C := RX7) (T := TX7) (N := 4) S.1 S.2.1 S.2.2.2.2 inA_RX7 tyX7 tyX7_ok nmX7 S.2.2.2.1 hE.1 w ha rfl 0 (by decide) (S.2.2.2.2 _ m_1_194) (fun _ h => h) rfl hin rfl (by decide +kernel) hn hfit hl hdg (fun H1 l1 w1 => kk H1 l1 (by rw [← hfs]; exact w1))
theorem m_1_195 : (Cond.fieldLink RX7 18 "Sendhouse$Written" "count" "I") ∈ lwA := lwA_mk (ck_1 _ (List.mem_of_getElem? (i := 195) rfl)) rfl
theorem pf_RX7_18_13 {A9 : Nat → Prop} {H9 : Heap} {fs : List Value} {v : Value} (S : CallFix p m c cc nL s args lwA RX7) (hE : g_E D vwCl (gT ar) (EX1 κ) A9 s H9) (w : g_S D vwCl A H0 G H locs nz) (ha : G a = some (.inr (13, fs))) (hn : narrow .int v = v) (hfit : fits .int v = true) (hl : 1 < fs.length) {fs1 : List Value} (hfs : fs.set 1 v = fs1) (hdg : decode cc pc = .ok (.putfield 18, 3)) (kk : ∀ (H1 : Heap) (locs1 : List Loc), g_S D vwCl A H0 (g_up G a (.inr (13, fs1))) H1 locs1 nz → W p l e R s m args below meth c H1 locs1 cells slots Q (F0 m (pc + 3) ls rest)) : W p l e R s m args below meth c H locs cells slots Q (F0 m pc ls (v :: .ref a :: rest)) :=
  g_put (ci := 13) (ty := .int) (C := RX7) (T := TX7) (N := 4) S.1 S.2.1 S.2.2.2.2 inA_RX7 tyX7 tyX7_ok nmX7 S.2.2.2.1 hE.1 w ha rfl 1 (by decide) (S.2.2.2.2 _ m_1_195) (fun _ h => h) rfl (by decide +kernel) hn hfit hl hdg (fun H1 l1 w1 => kk H1 l1 (by rw [← hfs]; exact w1))
theorem m_1_196 : (Cond.fieldLink RX7 22 "Sendhouse$Written" "sum" "J") ∈ lwA := lwA_mk (ck_1 _ (List.mem_of_getElem? (i := 196) rfl)) rfl
theorem pf_RX7_22_13 {A9 : Nat → Prop} {H9 : Heap} {fs : List Value} {v : Value} (S : CallFix p m c cc nL s args lwA RX7) (hE : g_E D vwCl (gT ar) (EX1 κ) A9 s H9) (w : g_S D vwCl A H0 G H locs nz) (ha : G a = some (.inr (13, fs))) (hn : narrow .long v = v) (hfit : fits .long v = true) (hl : 2 < fs.length) {fs1 : List Value} (hfs : fs.set 2 v = fs1) (hdg : decode cc pc = .ok (.putfield 22, 3)) (kk : ∀ (H1 : Heap) (locs1 : List Loc), g_S D vwCl A H0 (g_up G a (.inr (13, fs1))) H1 locs1 nz → W p l e R s m args below meth c H1 locs1 cells slots Q (F0 m (pc + 3) ls rest)) : W p l e R s m args below meth c H locs cells slots Q (F0 m pc ls (v :: .ref a :: rest)) :=
  g_put (ci := 13) (ty := .long) (C := RX7) (T := TX7) (N := 4) S.1 S.2.1 S.2.2.2.2 inA_RX7 tyX7 tyX7_ok nmX7 S.2.2.2.1 hE.1 w ha rfl 2 (by decide) (S.2.2.2.2 _ m_1_196) (fun _ h => h) rfl (by decide +kernel) hn hfit hl hdg (fun H1 l1 w1 => kk H1 l1 (by rw [← hfs]; exact w1))
theorem m_1_198 : (Cond.fieldLink RX7 26 "Sendhouse$Written" "power" "J") ∈ lwA := lwA_mk (ck_1 _ (List.mem_of_getElem? (i := 198) rfl)) rfl
theorem pf_RX7_26_13 {A9 : Nat → Prop} {H9 : Heap} {fs : List Value} {v : Value} (S : CallFix p m c cc nL s args lwA RX7) (hE : g_E D vwCl (gT ar) (EX1 κ) A9 s H9) (w : g_S D vwCl A H0 G H locs nz) (ha : G a = some (.inr (13, fs))) (hn : narrow .long v = v) (hfit : fits .long v = true) (hl : 3 < fs.length) {fs1 : List Value} (hfs : fs.set 3 v = fs1) (hdg : decode cc pc = .ok (.putfield 26, 3)) (kk : ∀ (H1 : Heap) (locs1 : List Loc), g_S D vwCl A H0 (g_up G a (.inr (13, fs1))) H1 locs1 nz → W p l e R s m args below meth c H1 locs1 cells slots Q (F0 m (pc + 3) ls rest)) : W p l e R s m args below meth c H locs cells slots Q (F0 m pc ls (v :: .ref a :: rest)) :=
  g_put (ci := 13) (ty := .long) (C := RX7) (T := TX7) (N := 4) S.1 S.2.1 S.2.2.2.2 inA_RX7 tyX7 tyX7_ok nmX7 S.2.2.2.1 hE.1 w ha rfl 3 (by decide) (S.2.2.2.2 _ m_1_198) (fun _ h => h) rfl (by decide +kernel) hn hfit hl hdg (fun H1 l1 w1 => kk H1 l1 (by rw [← hfs]; exact w1))
end SITES
set_option maxHeartbeats 4000000 in
set_option maxRecDepth 100000 in
theorem c_X0_init (l : Launch) (D : va_G) (ar : Nat → ClassId) (κ : Nat → Nat) (G : gW) (sz : Nat) (o : Nat) (ho : G o = some (.inr (6, [.null, .null, .int 0]))) : Met l yX0_init (lwC yX0_init cX0_init 1 none) (rD 2 2 24) (g_Pc D vwCl (gT ar) (EX1 κ) G sz [.ref o]) (g_Qv D vwCl (g_A G sz) (fun u => u = ((g_up (g_up (g_up G sz (.inl (ar 0, 12, .inl (upd (fun _ => 0) (Int32.toNatClampNeg 0) (-1))))) o (.inr (6, [.ref sz, .ref (sz + 1), .int 3]))) (sz + 1) (.inl (ar 0, 12, .inl (fun _ => 0)))), sz + 2))) 2 24 (g_A G sz) := by
  refine g_ofW (by decide +kernel) (Nat.le_of_ble_eq_true rfl) ?_
  intro p e s m below meth c ls S hr hlk hin hE w hl
  have hx := S.1
  have hb := S.2.1
  have hl : lv_has ls 1 [(0, .ref o)] := hl
  have lt_ho : o < sz := g_ltn w ho
  refine lv_aload_n hx hb dX0_init_0 rfl (lv_at hl 0 rfl) ?_
  refine W.objInit hx hb S.2.2.2.1 (S.2.2.2.2 _ m_1_53) (S.2.2.2.2 _ m_1_46) (S.2.2.2.2 _ m_obj) rfl (by rw [S.2.2.1]; exact hl.1) rfl dX0_init_1 (Nat.le_of_ble_eq_true rfl) (Nat.le_of_ble_eq_true rfl) ?_
  refine W.eq (g2 := F0 m 4 ls []) rfl ?_
  refine lv_aload_n hx hb dX0_init_4 rfl (lv_at hl 0 rfl) ?_
  refine lv_bipush (v := 12) hx hb dX0_init_5 (by decide) ?_
  refine g_newa (atype := .int) (a0 := (12, .inl (fun _ => 0))) hx hb (S.2.2.2.2 _ m_1_65) rfl hE.1 w 0 rfl rfl (by decide) rfl (Nat.le_of_ble_eq_true rfl) (Nat.le_of_ble_eq_true rfl) (Nat.le_of_ble_eq_true rfl) dX0_init_7 (fun H w => ?_)
  refine pf_RX0_9_6 (fs1 := [.ref sz, .null, .int 0]) S hE hin w (g_up_o (by omega) ho) rfl rfl (Nat.le_of_ble_eq_true rfl) rfl dX0_init_9 (fun H locs w => ?_)
  refine lv_aload_n hx hb dX0_init_12 rfl (lv_at hl 0 rfl) ?_
  refine lv_bipush (v := 12) hx hb dX0_init_13 (by decide) ?_
  refine g_newa (atype := .int) (a0 := (12, .inl (fun _ => 0))) hx hb (S.2.2.2.2 _ m_1_65) rfl hE.1 w 0 rfl rfl (by decide) rfl (Nat.le_of_ble_eq_true rfl) (Nat.le_of_ble_eq_true rfl) (Nat.le_of_ble_eq_true rfl) dX0_init_15 (fun H w => ?_)
  refine pf_RX0_15_6 (fs1 := [.ref sz, .ref (sz + 1), .int 0]) S hE hin w (g_up_o (by omega) g_up_s) rfl rfl (Nat.le_of_ble_eq_true rfl) rfl dX0_init_17 (fun H locs w => ?_)
  have w := g_eqw w (g_inn g_over (by omega))
  refine lv_aload_n hx hb dX0_init_20 rfl (lv_at hl 0 rfl) ?_
  refine lv_iconst (v := 3) hx hb dX0_init_21 (by decide) ?_
  refine pf_RX0_18_6 (fs1 := [.ref sz, .ref (sz + 1), .int 3]) S hE w (g_up_o (by omega) g_up_s) rfl rfl (Nat.le_of_ble_eq_true rfl) rfl dX0_init_22 (fun H locs w => ?_)
  have w := g_eqw w (g_inn g_over (by omega))
  refine lv_aload_n hx hb dX0_init_25 rfl (lv_at hl 0 rfl) ?_
  refine gf_RX0_9_6 S hE w (g_up_o (by omega) g_up_s) rfl dX0_init_26 ?_
  refine lv_iconst (v := 0) hx hb dX0_init_29 (by decide) ?_
  refine lv_iconst (v := (-1)) hx hb dX0_init_30 (by decide) ?_
  refine g_iast hx hb hE.1 w 0 (g_up_o (by omega) (g_up_o (by omega) g_up_s)) rfl (vp_in_nI (n := 0) (by decide) (by decide)) dX0_init_31 (fun H locs w => ?_)
  have w := g_eqw w (g_inn (g_inn g_over (by omega)) (by omega))
  exact g_vret hx hb hr hlk w (Nat.le_of_ble_eq_true rfl) (Nat.le_of_ble_eq_true rfl) dX0_init_32 rfl
set_option maxHeartbeats 4000000 in
set_option maxRecDepth 100000 in
theorem c_X3_init (l : Launch) (D : va_G) (ar : Nat → ClassId) (κ : Nat → Nat) (G : gW) (sz : Nat) (o : Nat) (ho : G o = some (.inr (9, [.null, .null, .null, .null, .null, .int 0, .int 0]))) : Met l yX3_init (lwC yX3_init cX3_init 1 none) (rD 2 5 120) (g_Pc D vwCl (gT ar) (EX1 κ) G sz [.ref o]) (g_Qv D vwCl (g_A G sz) (fun u => u = ((g_up (g_up (g_up (g_up (g_up (g_up G sz (.inl (ar 2, 24, .inl (fun _ => 0)))) o (.inr (9, [.ref sz, .ref (sz + 1), .ref (sz + 2), .ref (sz + 3), .ref (sz + 4), .int 0, .int 0]))) (sz + 1) (.inl (ar 0, 24, .inl (fun _ => 0)))) (sz + 2) (.inl (ar 0, 24, .inl (fun _ => 0)))) (sz + 3) (.inl (ar 0, 24, .inl (fun _ => 0)))) (sz + 4) (.inl (ar 0, 24, .inl (fun _ => 0)))), sz + 5))) 5 120 (g_A G sz) := by
  refine g_ofW (by decide +kernel) (Nat.le_of_ble_eq_true rfl) ?_
  intro p e s m below meth c ls S hr hlk hin hE w hl
  have hx := S.1
  have hb := S.2.1
  have hl : lv_has ls 1 [(0, .ref o)] := hl
  have lt_ho : o < sz := g_ltn w ho
  refine lv_aload_n hx hb dX3_init_0 rfl (lv_at hl 0 rfl) ?_
  refine W.objInit hx hb S.2.2.2.1 (S.2.2.2.2 _ m_1_73) (S.2.2.2.2 _ m_1_46) (S.2.2.2.2 _ m_obj) rfl (by rw [S.2.2.1]; exact hl.1) rfl dX3_init_1 (Nat.le_of_ble_eq_true rfl) (Nat.le_of_ble_eq_true rfl) ?_
  refine W.eq (g2 := F0 m 4 ls []) rfl ?_
  refine lv_aload_n hx hb dX3_init_4 rfl (lv_at hl 0 rfl) ?_
  refine lv_bipush (v := 24) hx hb dX3_init_5 (by decide) ?_
  refine g_newa (atype := .char) (a0 := (24, .inl (fun _ => 0))) hx hb (S.2.2.2.2 _ m_1_98) rfl hE.1 w 2 rfl rfl (by decide) rfl (Nat.le_of_ble_eq_true rfl) (Nat.le_of_ble_eq_true rfl) (Nat.le_of_ble_eq_true rfl) dX3_init_7 (fun H w => ?_)
  refine pf_RX3_9_9 (fs1 := [.ref sz, .null, .null, .null, .null, .int 0, .int 0]) S hE hin w (g_up_o (by omega) ho) rfl rfl (Nat.le_of_ble_eq_true rfl) rfl dX3_init_9 (fun H locs w => ?_)
  refine lv_aload_n hx hb dX3_init_12 rfl (lv_at hl 0 rfl) ?_
  refine lv_bipush (v := 24) hx hb dX3_init_13 (by decide) ?_
  refine g_newa (atype := .int) (a0 := (24, .inl (fun _ => 0))) hx hb (S.2.2.2.2 _ m_1_65) rfl hE.1 w 0 rfl rfl (by decide) rfl (Nat.le_of_ble_eq_true rfl) (Nat.le_of_ble_eq_true rfl) (Nat.le_of_ble_eq_true rfl) dX3_init_15 (fun H w => ?_)
  refine pf_RX3_15_9 (fs1 := [.ref sz, .ref (sz + 1), .null, .null, .null, .int 0, .int 0]) S hE hin w (g_up_o (by omega) g_up_s) rfl rfl (Nat.le_of_ble_eq_true rfl) rfl dX3_init_17 (fun H locs w => ?_)
  have w := g_eqw w (g_inn g_over (by omega))
  refine lv_aload_n hx hb dX3_init_20 rfl (lv_at hl 0 rfl) ?_
  refine lv_bipush (v := 24) hx hb dX3_init_21 (by decide) ?_
  refine g_newa (atype := .int) (a0 := (24, .inl (fun _ => 0))) hx hb (S.2.2.2.2 _ m_1_65) rfl hE.1 w 0 rfl rfl (by decide) rfl (Nat.le_of_ble_eq_true rfl) (Nat.le_of_ble_eq_true rfl) (Nat.le_of_ble_eq_true rfl) dX3_init_23 (fun H w => ?_)
  refine pf_RX3_19_9 (fs1 := [.ref sz, .ref (sz + 1), .ref (sz + 2), .null, .null, .int 0, .int 0]) S hE hin w (g_up_o (by omega) (g_up_o (by omega) g_up_s)) rfl rfl (Nat.le_of_ble_eq_true rfl) rfl dX3_init_25 (fun H locs w => ?_)
  have w := g_eqw w (g_inn (g_inn g_over (by omega)) (by omega))
  refine lv_aload_n hx hb dX3_init_28 rfl (lv_at hl 0 rfl) ?_
  refine lv_bipush (v := 24) hx hb dX3_init_29 (by decide) ?_
  refine g_newa (atype := .int) (a0 := (24, .inl (fun _ => 0))) hx hb (S.2.2.2.2 _ m_1_65) rfl hE.1 w 0 rfl rfl (by decide) rfl (Nat.le_of_ble_eq_true rfl) (Nat.le_of_ble_eq_true rfl) (Nat.le_of_ble_eq_true rfl) dX3_init_31 (fun H w => ?_)
  refine pf_RX3_22_9 (fs1 := [.ref sz, .ref (sz + 1), .ref (sz + 2), .ref (sz + 3), .null, .int 0, .int 0]) S hE hin w (g_up_o (by omega) (g_up_o (by omega) (g_up_o (by omega) g_up_s))) rfl rfl (Nat.le_of_ble_eq_true rfl) rfl dX3_init_33 (fun H locs w => ?_)
  have w := g_eqw w (g_inn (g_inn (g_inn g_over (by omega)) (by omega)) (by omega))
  refine lv_aload_n hx hb dX3_init_36 rfl (lv_at hl 0 rfl) ?_
  refine lv_bipush (v := 24) hx hb dX3_init_37 (by decide) ?_
  refine g_newa (atype := .int) (a0 := (24, .inl (fun _ => 0))) hx hb (S.2.2.2.2 _ m_1_65) rfl hE.1 w 0 rfl rfl (by decide) rfl (Nat.le_of_ble_eq_true rfl) (Nat.le_of_ble_eq_true rfl) (Nat.le_of_ble_eq_true rfl) dX3_init_39 (fun H w => ?_)
  refine pf_RX3_25_9 (fs1 := [.ref sz, .ref (sz + 1), .ref (sz + 2), .ref (sz + 3), .ref (sz + 4), .int 0, .int 0]) S hE hin w (g_up_o (by omega) (g_up_o (by omega) (g_up_o (by omega) (g_up_o (by omega) g_up_s)))) rfl rfl (Nat.le_of_ble_eq_true rfl) rfl dX3_init_41 (fun H locs w => ?_)
  have w := g_eqw w (g_inn (g_inn (g_inn (g_inn g_over (by omega)) (by omega)) (by omega)) (by omega))
  refine lv_aload_n hx hb dX3_init_44 rfl (lv_at hl 0 rfl) ?_
  refine lv_iconst (v := 0) hx hb dX3_init_45 (by decide) ?_
  refine pf_RX3_28_9 (fs1 := [.ref sz, .ref (sz + 1), .ref (sz + 2), .ref (sz + 3), .ref (sz + 4), .int 0, .int 0]) S hE w (g_up_o (by omega) (g_up_o (by omega) (g_up_o (by omega) (g_up_o (by omega) g_up_s)))) rfl rfl (Nat.le_of_ble_eq_true rfl) rfl dX3_init_46 (fun H locs w => ?_)
  have w := g_eqw w (g_inn (g_inn (g_inn (g_inn g_over (by omega)) (by omega)) (by omega)) (by omega))
  refine lv_aload_n hx hb dX3_init_49 rfl (lv_at hl 0 rfl) ?_
  refine lv_iconst (v := 0) hx hb dX3_init_50 (by decide) ?_
  refine pf_RX3_32_9 (fs1 := [.ref sz, .ref (sz + 1), .ref (sz + 2), .ref (sz + 3), .ref (sz + 4), .int 0, .int 0]) S hE w (g_up_o (by omega) (g_up_o (by omega) (g_up_o (by omega) (g_up_o (by omega) g_up_s)))) rfl rfl (Nat.le_of_ble_eq_true rfl) rfl dX3_init_51 (fun H locs w => ?_)
  have w := g_eqw w (g_inn (g_inn (g_inn (g_inn g_over (by omega)) (by omega)) (by omega)) (by omega))
  exact g_vret hx hb hr hlk w (Nat.le_of_ble_eq_true rfl) (Nat.le_of_ble_eq_true rfl) dX3_init_54 rfl
set_option maxHeartbeats 4000000 in
set_option maxRecDepth 100000 in
theorem c_X4_init (l : Launch) (D : va_G) (ar : Nat → ClassId) (κ : Nat → Nat) (G : gW) (sz : Nat) (o : Nat) (ho : G o = some (.inr (10, [.null, .int 0, .int 0, .int 0, .int 0]))) : Met l yX4_init (lwC yX4_init cX4_init 1 none) (rD 2 1 8) (g_Pc D vwCl (gT ar) (EX1 κ) G sz [.ref o]) (g_Qv D vwCl (g_A G sz) (fun u => u = ((g_up (g_up G sz (.inl (ar 1, 8, .inr (.inl (fun _ => 0))))) o (.inr (10, [.ref sz, .int 0, .int 0, .int 0, .int 0]))), sz + 1))) 1 8 (g_A G sz) := by
  refine g_ofW (by decide +kernel) (Nat.le_of_ble_eq_true rfl) ?_
  intro p e s m below meth c ls S hr hlk hin hE w hl
  have hx := S.1
  have hb := S.2.1
  have hl : lv_has ls 1 [(0, .ref o)] := hl
  have lt_ho : o < sz := g_ltn w ho
  refine lv_aload_n hx hb dX4_init_0 rfl (lv_at hl 0 rfl) ?_
  refine W.objInit hx hb S.2.2.2.1 (S.2.2.2.2 _ m_1_111) (S.2.2.2.2 _ m_1_46) (S.2.2.2.2 _ m_obj) rfl (by rw [S.2.2.1]; exact hl.1) rfl dX4_init_1 (Nat.le_of_ble_eq_true rfl) (Nat.le_of_ble_eq_true rfl) ?_
  refine W.eq (g2 := F0 m 4 ls []) rfl ?_
  refine lv_aload_n hx hb dX4_init_4 rfl (lv_at hl 0 rfl) ?_
  refine lv_bipush (v := 8) hx hb dX4_init_5 (by decide) ?_
  refine g_newa (atype := .long) (a0 := (8, .inr (.inl (fun _ => 0)))) hx hb (S.2.2.2.2 _ m_1_137) rfl hE.1 w 1 rfl rfl (by decide) rfl (Nat.le_of_ble_eq_true rfl) (Nat.le_of_ble_eq_true rfl) (Nat.le_of_ble_eq_true rfl) dX4_init_7 (fun H w => ?_)
  refine pf_RX4_9_10 (fs1 := [.ref sz, .int 0, .int 0, .int 0, .int 0]) S hE hin w (g_up_o (by omega) ho) rfl rfl (Nat.le_of_ble_eq_true rfl) rfl dX4_init_9 (fun H locs w => ?_)
  refine lv_aload_n hx hb dX4_init_12 rfl (lv_at hl 0 rfl) ?_
  refine lv_iconst (v := 0) hx hb dX4_init_13 (by decide) ?_
  refine pf_RX4_15_10 (fs1 := [.ref sz, .int 0, .int 0, .int 0, .int 0]) S hE w g_up_s rfl rfl (Nat.le_of_ble_eq_true rfl) rfl dX4_init_14 (fun H locs w => ?_)
  have w := g_eqw w g_over
  refine lv_aload_n hx hb dX4_init_17 rfl (lv_at hl 0 rfl) ?_
  refine lv_iconst (v := 0) hx hb dX4_init_18 (by decide) ?_
  refine pf_RX4_19_10 (fs1 := [.ref sz, .int 0, .int 0, .int 0, .int 0]) S hE w g_up_s rfl rfl (Nat.le_of_ble_eq_true rfl) rfl dX4_init_19 (fun H locs w => ?_)
  have w := g_eqw w g_over
  refine lv_aload_n hx hb dX4_init_22 rfl (lv_at hl 0 rfl) ?_
  refine lv_iconst (v := 0) hx hb dX4_init_23 (by decide) ?_
  refine pf_RX4_22_10 (fs1 := [.ref sz, .int 0, .int 0, .int 0, .int 0]) S hE w g_up_s rfl rfl (Nat.le_of_ble_eq_true rfl) rfl dX4_init_24 (fun H locs w => ?_)
  have w := g_eqw w g_over
  refine lv_aload_n hx hb dX4_init_27 rfl (lv_at hl 0 rfl) ?_
  refine lv_iconst (v := 0) hx hb dX4_init_28 (by decide) ?_
  refine pf_RX4_25_10 (fs1 := [.ref sz, .int 0, .int 0, .int 0, .int 0]) S hE w g_up_s rfl rfl (Nat.le_of_ble_eq_true rfl) rfl dX4_init_29 (fun H locs w => ?_)
  have w := g_eqw w g_over
  exact g_vret hx hb hr hlk w (Nat.le_of_ble_eq_true rfl) (Nat.le_of_ble_eq_true rfl) dX4_init_32 rfl
set_option maxHeartbeats 4000000 in
set_option maxRecDepth 100000 in
theorem c_X1_init (l : Launch) (D : va_G) (ar : Nat → ClassId) (κ : Nat → Nat) (G : gW) (sz : Nat) (o : Nat) (ho : G o = some (.inr (7, [.null, .null, .null, .null, .long 0, .int 0, .int 0]))) : Met l yX1_init (lwC yX1_init cX1_init 1 none) (rD 2 3 14) (g_Pc D vwCl (gT ar) (EX1 κ) G sz [.ref o]) (g_Qv D vwCl (g_A G sz) (fun u => u = ((g_up (g_up (g_up (g_up G sz (.inl (ar 1, 2, .inr (.inl (fun _ => 0))))) o (.inr (7, [.ref sz, .ref (sz + 1), .ref (sz + 2), .null, .long 502511173632, .int 0, .int 0]))) (sz + 1) (.inl (ar 1, 4, .inr (.inl (fun _ => 0))))) (sz + 2) (.inl (ar 1, 8, .inr (.inl (fun _ => 0))))), sz + 3))) 3 14 (g_A G sz) := by
  refine g_ofW (by decide +kernel) (Nat.le_of_ble_eq_true rfl) ?_
  intro p e s m below meth c ls S hr hlk hin hE w hl
  have hx := S.1
  have hb := S.2.1
  have hl : lv_has ls 1 [(0, .ref o)] := hl
  have lt_ho : o < sz := g_ltn w ho
  refine lv_aload_n hx hb dX1_init_0 rfl (lv_at hl 0 rfl) ?_
  refine W.objInit hx hb S.2.2.2.1 (S.2.2.2.2 _ m_1_216) (S.2.2.2.2 _ m_1_46) (S.2.2.2.2 _ m_obj) rfl (by rw [S.2.2.1]; exact hl.1) rfl dX1_init_1 (Nat.le_of_ble_eq_true rfl) (Nat.le_of_ble_eq_true rfl) ?_
  refine W.eq (g2 := F0 m 4 ls []) rfl ?_
  refine lv_aload_n hx hb dX1_init_4 rfl (lv_at hl 0 rfl) ?_
  refine lv_iconst (v := 2) hx hb dX1_init_5 (by decide) ?_
  refine g_newa (atype := .long) (a0 := (2, .inr (.inl (fun _ => 0)))) hx hb (S.2.2.2.2 _ m_1_137) rfl hE.1 w 1 rfl rfl (by decide) rfl (Nat.le_of_ble_eq_true rfl) (Nat.le_of_ble_eq_true rfl) (Nat.le_of_ble_eq_true rfl) dX1_init_6 (fun H w => ?_)
  refine pf_RX1_9_7 (fs1 := [.ref sz, .null, .null, .null, .long 0, .int 0, .int 0]) S hE hin w (g_up_o (by omega) ho) rfl rfl (Nat.le_of_ble_eq_true rfl) rfl dX1_init_8 (fun H locs w => ?_)
  refine lv_aload_n hx hb dX1_init_11 rfl (lv_at hl 0 rfl) ?_
  refine lv_iconst (v := 4) hx hb dX1_init_12 (by decide) ?_
  refine g_newa (atype := .long) (a0 := (4, .inr (.inl (fun _ => 0)))) hx hb (S.2.2.2.2 _ m_1_137) rfl hE.1 w 1 rfl rfl (by decide) rfl (Nat.le_of_ble_eq_true rfl) (Nat.le_of_ble_eq_true rfl) (Nat.le_of_ble_eq_true rfl) dX1_init_13 (fun H w => ?_)
  refine pf_RX1_15_7 (fs1 := [.ref sz, .ref (sz + 1), .null, .null, .long 0, .int 0, .int 0]) S hE hin w (g_up_o (by omega) g_up_s) rfl rfl (Nat.le_of_ble_eq_true rfl) rfl dX1_init_15 (fun H locs w => ?_)
  have w := g_eqw w (g_inn g_over (by omega))
  refine lv_aload_n hx hb dX1_init_18 rfl (lv_at hl 0 rfl) ?_
  refine lv_bipush (v := 8) hx hb dX1_init_19 (by decide) ?_
  refine g_newa (atype := .long) (a0 := (8, .inr (.inl (fun _ => 0)))) hx hb (S.2.2.2.2 _ m_1_137) rfl hE.1 w 1 rfl rfl (by decide) rfl (Nat.le_of_ble_eq_true rfl) (Nat.le_of_ble_eq_true rfl) (Nat.le_of_ble_eq_true rfl) dX1_init_21 (fun H w => ?_)
  refine pf_RX1_18_7 (fs1 := [.ref sz, .ref (sz + 1), .ref (sz + 2), .null, .long 0, .int 0, .int 0]) S hE hin w (g_up_o (by omega) (g_up_o (by omega) g_up_s)) rfl rfl (Nat.le_of_ble_eq_true rfl) rfl dX1_init_23 (fun H locs w => ?_)
  have w := g_eqw w (g_inn (g_inn g_over (by omega)) (by omega))
  refine lv_aload_n hx hb dX1_init_26 rfl (lv_at hl 0 rfl) ?_
  refine lv_null hx hb dX1_init_27 ?_
  refine pf_RX1_21_7 (fs1 := [.ref sz, .ref (sz + 1), .ref (sz + 2), .null, .long 0, .int 0, .int 0]) S hE w (g_up_o (by omega) (g_up_o (by omega) g_up_s)) rfl rfl (Nat.le_of_ble_eq_true rfl) rfl dX1_init_28 (fun H locs w => ?_)
  have w := g_eqw w (g_inn (g_inn g_over (by omega)) (by omega))
  refine lv_aload_n hx hb dX1_init_31 rfl (lv_at hl 0 rfl) ?_
  refine lv_ldc2 hx hb S.2.2.2.1 (S.2.2.2.2 _ m_1_217) dX1_init_32 ?_
  refine pf_RX1_27_7 (fs1 := [.ref sz, .ref (sz + 1), .ref (sz + 2), .null, .long 502511173632, .int 0, .int 0]) S hE w (g_up_o (by omega) (g_up_o (by omega) g_up_s)) rfl rfl (Nat.le_of_ble_eq_true rfl) rfl dX1_init_35 (fun H locs w => ?_)
  have w := g_eqw w (g_inn (g_inn g_over (by omega)) (by omega))
  refine lv_aload_n hx hb dX1_init_38 rfl (lv_at hl 0 rfl) ?_
  refine lv_iconst (v := 0) hx hb dX1_init_39 (by decide) ?_
  refine pf_RX1_31_7 (fs1 := [.ref sz, .ref (sz + 1), .ref (sz + 2), .null, .long 502511173632, .int 0, .int 0]) S hE w (g_up_o (by omega) (g_up_o (by omega) g_up_s)) rfl rfl (Nat.le_of_ble_eq_true rfl) rfl dX1_init_40 (fun H locs w => ?_)
  have w := g_eqw w (g_inn (g_inn g_over (by omega)) (by omega))
  refine lv_aload_n hx hb dX1_init_43 rfl (lv_at hl 0 rfl) ?_
  refine lv_iconst (v := 0) hx hb dX1_init_44 (by decide) ?_
  refine pf_RX1_35_7 (fs1 := [.ref sz, .ref (sz + 1), .ref (sz + 2), .null, .long 502511173632, .int 0, .int 0]) S hE w (g_up_o (by omega) (g_up_o (by omega) g_up_s)) rfl rfl (Nat.le_of_ble_eq_true rfl) rfl dX1_init_45 (fun H locs w => ?_)
  have w := g_eqw w (g_inn (g_inn g_over (by omega)) (by omega))
  exact g_vret hx hb hr hlk w (Nat.le_of_ble_eq_true rfl) (Nat.le_of_ble_eq_true rfl) dX1_init_48 rfl
set_option maxHeartbeats 4000000 in
set_option maxRecDepth 100000 in
theorem c_AC_init (l : Launch) (D : va_G) (ar : Nat → ClassId) (κ : Nat → Nat) (G : gW) (sz : Nat) (o : Nat) (mc0 : Int32) (ed : Option Nat) (n0 : Int32) (ho : G o = some (.inr (5, [.int mc0, va_rf ed, .int n0]))) : Met l yJxa1e45_init_da8c8 (lwC yJxa1e45_init_da8c8 cJxa1e45_init_da8c8 1 none) (rD 2 0 0) (g_Pc D vwCl (gT ar) (EX1 κ) G sz [.ref o]) (g_Qv D vwCl (g_A G sz) (fun u => u = (G, sz))) 0 0 (g_A G sz) := by
  refine g_ofW (by decide +kernel) (Nat.le_of_ble_eq_true rfl) ?_
  intro p e s m below meth c ls S hr hlk hin hE w hl
  have hx := S.1
  have hb := S.2.1
  have hl : lv_has ls 1 [(0, .ref o)] := hl
  have lt_ho : o < sz := g_ltn w ho
  refine lv_aload_n hx hb dJxa1e45_init_da8c8_0 rfl (lv_at hl 0 rfl) ?_
  refine W.objInit hx hb S.2.2.2.1 (S.2.2.2.2 _ m_1_175) (S.2.2.2.2 _ m_1_46) (S.2.2.2.2 _ m_obj) rfl (by rw [S.2.2.1]; exact hl.1) rfl dJxa1e45_init_da8c8_1 (Nat.le_of_ble_eq_true rfl) (Nat.le_of_ble_eq_true rfl) ?_
  refine W.eq (g2 := F0 m 4 ls []) rfl ?_
  exact g_vret hx hb hr hlk w (Nat.le_of_ble_eq_true rfl) (Nat.le_of_ble_eq_true rfl) dJxa1e45_init_da8c8_4 rfl
set_option maxHeartbeats 4000000 in
set_option maxRecDepth 100000 in
theorem c_AL_init (l : Launch) (D : va_G) (ar : Nat → ClassId) (κ : Nat → Nat) (G : gW) (sz : Nat) (o : Nat) (mc0 : Int32) (ed : Option Nat) (n0 : Int32) (ho : G o = some (.inr (5, [.int mc0, va_rf ed, .int n0]))) : Met l yJxc12de_init_da8c8 (lwC yJxc12de_init_da8c8 cJxc12de_init_da8c8 1 none) (rD 3 0 0) (g_Pc D vwCl (gT ar) (EX1 κ) G sz [.ref o]) (g_Qv D vwCl (g_A G sz) (fun u => u = ((g_up G o (.inr (5, [.int 0, va_rf ed, .int n0]))), sz))) 0 0 (g_A G sz) := by
  refine g_ofW (by decide +kernel) (Nat.le_of_ble_eq_true rfl) ?_
  intro p e s m below meth c ls S hr hlk hin hE w hl
  have hx := S.1
  have hb := S.2.1
  have hl : lv_has ls 1 [(0, .ref o)] := hl
  have lt_ho : o < sz := g_ltn w ho
  refine lv_aload_n hx hb dJxc12de_init_da8c8_0 rfl (lv_at hl 0 rfl) ?_
  refine g_callv w (g_runI (As := []) (rest := []) S hE w hl (c_AC_init l D ar κ G sz o mc0 ed n0 ho) (k_RJxc12de_1 S.2.2.2.2 ⟨Nat.le_of_ble_eq_true rfl, Nat.le_of_ble_eq_true rfl⟩) rfl rfl (Nat.le_of_ble_eq_true rfl) dJxc12de_init_da8c8_1 ⟨Nat.le_of_ble_eq_true rfl, Nat.le_of_ble_eq_true rfl⟩) (fun u H locs hp hnz w => ?_)
  obtain rfl := hp
  dsimp only at w
  refine lv_aload_n hx hb dJxc12de_init_da8c8_4 rfl (lv_at hl 0 rfl) ?_
  refine lv_iconst (v := 0) hx hb dJxc12de_init_da8c8_5 (by decide) ?_
  refine pf_RJxc12de_7_5 (fs1 := [.int 0, va_rf ed, .int n0]) S hE w ho rfl rfl (Nat.le_of_ble_eq_true rfl) rfl dJxc12de_init_da8c8_6 (fun H locs w => ?_)
  exact g_vret hx hb hr hlk w (Nat.le_of_ble_eq_true rfl) (Nat.le_of_ble_eq_true rfl) dJxc12de_init_da8c8_9 rfl
set_option maxHeartbeats 4000000 in
set_option maxRecDepth 100000 in
theorem c_ArrayList_init (l : Launch) (D : va_G) (ar : Nat → ClassId) (κ : Nat → Nat) (G : gW) (sz : Nat) (o : Nat) (ho : G o = some (.inr (5, [.int 0, .null, .int 0]))) : Met l yJx4a65c_init_da8c8 (lwC yJx4a65c_init_da8c8 cJx4a65c_init_da8c8 1 none) (rD 4 0 0) (g_Pc D vwCl (gT ar) (EX1 κ) G sz [.ref o]) (g_Qv D vwCl (g_A G sz) (fun u => u = ((g_up G o (.inr (5, [.int 0, .ref (κ 0), .int 0]))), sz))) 0 0 (g_A G sz) := by
  refine g_ofW (by decide +kernel) (Nat.le_of_ble_eq_true rfl) ?_
  intro p e s m below meth c ls S hr hlk hin hE w hl
  have hx := S.1
  have hb := S.2.1
  have hl : lv_has ls 1 [(0, .ref o)] := hl
  have lt_ho : o < sz := g_ltn w ho
  refine lv_aload_n hx hb dJx4a65c_init_da8c8_0 rfl (lv_at hl 0 rfl) ?_
  refine g_callv w (g_runI (As := []) (rest := []) S hE w hl (c_AL_init l D ar κ G sz o 0 none 0 ho) (k_RJx4a65c_1 S.2.2.2.2 ⟨Nat.le_of_ble_eq_true rfl, Nat.le_of_ble_eq_true rfl⟩) rfl rfl (Nat.le_of_ble_eq_true rfl) dJx4a65c_init_da8c8_1 ⟨Nat.le_of_ble_eq_true rfl, Nat.le_of_ble_eq_true rfl⟩) (fun u H locs hp hnz w => ?_)
  obtain rfl := hp
  dsimp only at w
  refine lv_aload_n hx hb dJx4a65c_init_da8c8_4 rfl (lv_at hl 0 rfl) ?_
  refine va_gets hx hb hE.2.2.2.2.1.1 w.2.2.1 S.2.2.2.1 (S.2.2.2.2 _ m_1_176) (fun _ h => h) dJx4a65c_init_da8c8_5 ?_
  refine pf_RJx4a65c_9_5 (fs1 := [.int 0, .ref (κ 0), .int 0]) S hE w g_up_s rfl rfl (Nat.le_of_ble_eq_true rfl) rfl dJx4a65c_init_da8c8_8 (fun H locs w => ?_)
  have w := g_eqw w g_over
  exact g_vret hx hb hr hlk w (Nat.le_of_ble_eq_true rfl) (Nat.le_of_ble_eq_true rfl) dJx4a65c_init_da8c8_11 rfl
set_option maxHeartbeats 4000000 in
set_option maxRecDepth 100000 in
theorem c_X7_init (l : Launch) (D : va_G) (ar : Nat → ClassId) (κ : Nat → Nat) (G : gW) (sz : Nat) (o : Nat) (ho : G o = some (.inr (13, [.null, .int 0, .long 0, .long 0]))) : Met l yX7_init (lwC yX7_init cX7_init 1 none) (rD 5 1 3) (g_Pc D vwCl (gT ar) (EX1 κ) G sz [.ref o]) (g_Qv D vwCl (g_A G sz) (fun u => u = ((g_up (g_up G sz (.inr (5, [.int 0, .ref (κ 0), .int 0]))) o (.inr (13, [.ref sz, .int 0, .long 0, .long 1]))), sz + 1))) 1 3 (g_A G sz) := by
  refine g_ofW (by decide +kernel) (Nat.le_of_ble_eq_true rfl) ?_
  intro p e s m below meth c ls S hr hlk hin hE w hl
  have hx := S.1
  have hb := S.2.1
  have hl : lv_has ls 1 [(0, .ref o)] := hl
  have lt_ho : o < sz := g_ltn w ho
  refine lv_aload_n hx hb dX7_init_0 rfl (lv_at hl 0 rfl) ?_
  refine W.objInit hx hb S.2.2.2.1 (S.2.2.2.2 _ m_1_163) (S.2.2.2.2 _ m_1_46) (S.2.2.2.2 _ m_obj) rfl (by rw [S.2.2.1]; exact hl.1) rfl dX7_init_1 (Nat.le_of_ble_eq_true rfl) (Nat.le_of_ble_eq_true rfl) ?_
  refine W.eq (g2 := F0 m 4 ls []) rfl ?_
  refine lv_aload_n hx hb dX7_init_4 rfl (lv_at hl 0 rfl) ?_
  refine nw_RX7_9 S hE w (Nat.le_of_ble_eq_true rfl) (Nat.le_of_ble_eq_true rfl) dX7_init_5 (fun H w => ?_)
  refine lv_dup hx hb dX7_init_8 rfl ?_
  refine g_callv w (g_runI (As := []) (rest := [.ref sz, .ref o]) S hE w hl (c_ArrayList_init l D ar κ (g_up G sz (.inr (5, [.int 0, .null, .int 0]))) (sz + 1) sz g_up_s) (k_RX7_11 S.2.2.2.2 ⟨Nat.le_of_ble_eq_true rfl, Nat.le_of_ble_eq_true rfl⟩) rfl rfl (Nat.le_of_ble_eq_true rfl) dX7_init_9 ⟨Nat.le_of_ble_eq_true rfl, Nat.le_of_ble_eq_true rfl⟩) (fun u H locs hp hnz w => ?_)
  obtain rfl := hp
  dsimp only at w
  have w := g_eqw w g_over
  refine pf_RX7_12_13 (fs1 := [.ref sz, .int 0, .long 0, .long 0]) S hE hin w (g_up_o (by omega) ho) rfl rfl (Nat.le_of_ble_eq_true rfl) rfl dX7_init_12 (fun H locs w => ?_)
  refine lv_aload_n hx hb dX7_init_15 rfl (lv_at hl 0 rfl) ?_
  refine lv_iconst (v := 0) hx hb dX7_init_16 (by decide) ?_
  refine pf_RX7_18_13 (fs1 := [.ref sz, .int 0, .long 0, .long 0]) S hE w g_up_s rfl rfl (Nat.le_of_ble_eq_true rfl) rfl dX7_init_17 (fun H locs w => ?_)
  have w := g_eqw w g_over
  refine lv_aload_n hx hb dX7_init_20 rfl (lv_at hl 0 rfl) ?_
  refine lv_lconst (v := 0) hx hb dX7_init_21 (by decide) ?_
  refine pf_RX7_22_13 (fs1 := [.ref sz, .int 0, .long 0, .long 0]) S hE w g_up_s rfl rfl (Nat.le_of_ble_eq_true rfl) rfl dX7_init_22 (fun H locs w => ?_)
  have w := g_eqw w g_over
  refine lv_aload_n hx hb dX7_init_25 rfl (lv_at hl 0 rfl) ?_
  refine lv_lconst (v := 1) hx hb dX7_init_26 (by decide) ?_
  refine pf_RX7_26_13 (fs1 := [.ref sz, .int 0, .long 0, .long 1]) S hE w g_up_s rfl rfl (Nat.le_of_ble_eq_true rfl) rfl dX7_init_27 (fun H locs w => ?_)
  have w := g_eqw w g_over
  exact g_vret hx hb hr hlk w (Nat.le_of_ble_eq_true rfl) (Nat.le_of_ble_eq_true rfl) dX7_init_30 rfl
/-- row of a longs' array filled up to i -/
def fillJ (f : Nat → Int64) (v : Int64) (i : Nat) : Nat → Int64 := fun k => if k < i then v else f k
theorem fillJ_0 {f : Nat → Int64} {v : Int64} : fillJ f v 0 = f := by funext k; simp [fillJ]
theorem fillJ_s {f : Nat → Int64} {v : Int64} {i : Nat} (h : i < 2 ^ 31) : vp_updL (fillJ f v i) (nI i).toNatClampNeg v = fillJ f v (i + 1) := by
  funext k
  rw [nI_clamp h]
  unfold fillJ vp_updL
  by_cases h1 : k = i
  · simp [h1]
  · by_cases h2 : k < i
    · have h3 : k < i + 1 := by omega
      simp [h1, h2, h3]
    · have h3 : ¬ k < i + 1 := by omega
      simp [h1, h2, h3]
set_option maxHeartbeats 4000000 in
set_option maxRecDepth 100000 in
theorem c_fillJ (l : Launch) (D : va_G) (ar : Nat → ClassId) (κ : Nat → Nat) (G : gW) (sz : Nat) (a : Nat) (v : Int64) (n : Nat) (f : Nat → Int64) (ha : G a = some (.inl (ar 1, n, .inr (.inl f)))) (hn : n < 2 ^ 31) : Met l yJ7_fill_d0a16 (lwC yJ7_fill_d0a16 cJ7_fill_d0a16 5 none) (rD 1 0 0) (g_Pc D vwCl (gT ar) (EX1 κ) G sz [.ref a, .long v]) (g_Qv D vwCl (g_A G sz) (fun u => u = (g_up G a (.inl (ar 1, n, .inr (.inl (fillJ f v n)))), sz))) 0 0 (g_A G sz) := by
  refine g_ofW (by decide +kernel) (Nat.le_of_ble_eq_true rfl) ?_
  intro p e s m below meth c ls S hr hlk hin hE w hl
  have hx := S.1
  have hb := S.2.1
  have hl : lv_has ls 5 [(0, .ref a), (1, .long v)] := hl
  refine lv_iconst (v := 0) hx hb dJ7_fill_d0a16_0 (by decide) ?_
  refine lv_istore_n (lv' := [(3, .int 0), (0, .ref a), (1, .long v)]) hx hb dJ7_fill_d0a16_1 rfl hl (by decide) rfl (fun ls hl => ?_)
  refine lv_aload_n hx hb dJ7_fill_d0a16_2 rfl (lv_at hl 1 rfl) ?_
  refine va_alen (v := Int32.ofNat n) hx hb hE.1 (g_1 w.1 ha) 0 1 rfl rfl rfl dJ7_fill_d0a16_3 ?_
  refine lv_istore (lv' := [(4, .int (Int32.ofNat n)), (3, .int 0), (0, .ref a), (1, .long v)]) hx hb dJ7_fill_d0a16_4 hl (by decide) rfl (fun ls hl => ?_)
  have key : ∀ (n9 i : Nat), i ≤ n → n + 1 ≤ i + n9 → ∀ (x9 : Int32), x9 = nI i → ∀ (H : Heap) (locs : List Loc) (ls : Array Slot), g_S D vwCl (g_A G sz) s.heap ((g_up G a (.inl (ar 1, n, .inr (.inl (fillJ f v i)))))) H locs (sz) → lv_has ls 5 [(3, .int x9), (4, .int (Int32.ofNat n)), (0, .ref a), (1, .long v)] → W p l e (rD 1 0 0) s m ([.ref a, .long v] : List Value).toArray below meth c H locs (0) (0) (MQ below (g_Qv D vwCl (g_A G sz) (fun u => u = (g_up G a (.inl (ar 1, n, .inr (.inl (fillJ f v n)))), sz))) ([.ref a, .long v] : List Value).toArray s 0 0 (g_A G sz)) (F0 m 6 ls []) := by
    intro n9
    induction n9 with
    | zero => intro i hi1 hi2; exact absurd hi2 (by omega)
    | succ n9 ih =>
      intro i hi1 hi2 x9 ex9 H locs ls w hl
      refine lv_iload_n hx hb dJ7_fill_d0a16_6 rfl (lv_at hl 0 rfl) ?_
      refine lv_iload hx hb dJ7_fill_d0a16_7 (lv_at hl 1 rfl) ?_
      refine lv_icmp_ge (tgt := 22) hx hb dJ7_fill_d0a16_9 (by decide) (fun c_9 => ?_) (fun c_9 => ?_)
      · have hin9 := lp_eq rfl ex9 hi1 hn c_9
        exact g_vret hx hb hr hlk w (by (try dsimp only [rD]); omega) (by (try dsimp only [rD]); omega) dJ7_fill_d0a16_22 (by rw [hin9])
      · have hlt9 := lp_lt rfl ex9 hi1 hn c_9
        refine lv_aload_n hx hb dJ7_fill_d0a16_12 rfl (lv_at hl 2 rfl) ?_
        refine lv_iload_n hx hb dJ7_fill_d0a16_13 rfl (lv_at hl 0 rfl) ?_
        refine lv_lload_n hx hb dJ7_fill_d0a16_14 rfl (lv_at hl 3 rfl) ?_
        refine g_last hx hb hE.1 w 1 g_up_s rfl (by rw [ex9]; exact vp_in_nI (by omega) hn) dJ7_fill_d0a16_15 (fun H locs w => ?_)
        have w := g_eqw w g_over
        refine lv_iinc (v := x9 + 1) (lv' := [(3, .int (x9 + 1)), (4, .int (Int32.ofNat n)), (0, .ref a), (1, .long v)]) hx hb dJ7_fill_d0a16_16 hl (k := 0) rfl rfl (by decide) rfl (fun ls hl => ?_)
        refine lv_goto (tgt := 6) hx hb dJ7_fill_d0a16_19 (by decide) ?_
        exact ih (i + 1) (by omega) (by omega) _ (by rw [ex9]; exact nI_1 i) _ _ _ (by rw [ex9, fillJ_s (by omega)] at w; exact w) (lv_sub hl [0, 1, 2, 3] rfl)
  exact key (n + 1) 0 (Nat.zero_le _) (by omega) 0 rfl _ _ _ (g_eqw w (by rw [fillJ_0]; exact (g_id ha).symm)) (lv_sub hl [1, 0, 2, 3] rfl)
