section SITES
variable {p : Program} {l : Launch} {e : Env} {R : Room} {s : State} {m : MethodId} {args : Array Value} {below : List Frame} {meth : Method} {c : Code} {H : Heap} {locs : List Loc} {cells slots : Nat} {Q : State → Prop}
variable {pc : Nat} {ls : Array Slot} {rest : List Value} {D : va_G} {ar : Nat → ClassId} {κ : Nat → Nat} {A : Nat → Prop} {a : Nat} {H0 : Heap} {G : gW} {nz nL : Nat} {cc : ByteArray}
theorem Ho_ab_swp {v9 : Ho} {y9 : Int64} : (v9.swp y9).ab = v9.ab := rfl
theorem Ho_ab_sws {v9 : Ho} {y9 : Int64} : (v9.sws y9).ab = v9.ab := rfl
theorem Ho_ab_swc {v9 : Ho} {y9 : Int32} : (v9.swc y9).ab = v9.ab := rfl
theorem Ho_ab_spg {v9 : Ho} {y9 : Nat → Nat → Int64} : (v9.spg y9).ab = v9.ab := rfl
theorem Ho_ab_snp {v9 : Ho} {y9 : Nat} : (v9.snp y9).ab = v9.ab := rfl
theorem Ho_fc_swp {v9 : Ho} {y9 : Int64} : (v9.swp y9).fc = v9.fc := rfl
theorem Ho_fc_sws {v9 : Ho} {y9 : Int64} : (v9.sws y9).fc = v9.fc := rfl
theorem Ho_fc_swc {v9 : Ho} {y9 : Int32} : (v9.swc y9).fc = v9.fc := rfl
theorem Ho_fc_spg {v9 : Ho} {y9 : Nat → Nat → Int64} : (v9.spg y9).fc = v9.fc := rfl
theorem Ho_fc_snp {v9 : Ho} {y9 : Nat} : (v9.snp y9).fc = v9.fc := rfl
theorem Ho_cn_swp {v9 : Ho} {y9 : Int64} : (v9.swp y9).cn = v9.cn := rfl
theorem Ho_cn_sws {v9 : Ho} {y9 : Int64} : (v9.sws y9).cn = v9.cn := rfl
theorem Ho_cn_swc {v9 : Ho} {y9 : Int32} : (v9.swc y9).cn = v9.cn := rfl
theorem Ho_cn_spg {v9 : Ho} {y9 : Nat → Nat → Int64} : (v9.spg y9).cn = v9.cn := rfl
theorem Ho_cn_snp {v9 : Ho} {y9 : Nat} : (v9.snp y9).cn = v9.cn := rfl
theorem Ho_me_swp {v9 : Ho} {y9 : Int64} : (v9.swp y9).me = v9.me := rfl
theorem Ho_me_sws {v9 : Ho} {y9 : Int64} : (v9.sws y9).me = v9.me := rfl
theorem Ho_me_swc {v9 : Ho} {y9 : Int32} : (v9.swc y9).me = v9.me := rfl
theorem Ho_me_spg {v9 : Ho} {y9 : Nat → Nat → Int64} : (v9.spg y9).me = v9.me := rfl
theorem Ho_me_snp {v9 : Ho} {y9 : Nat} : (v9.snp y9).me = v9.me := rfl
theorem Ho_nt_swp {v9 : Ho} {y9 : Int64} : (v9.swp y9).nt = v9.nt := rfl
theorem Ho_nt_sws {v9 : Ho} {y9 : Int64} : (v9.sws y9).nt = v9.nt := rfl
theorem Ho_nt_swc {v9 : Ho} {y9 : Int32} : (v9.swc y9).nt = v9.nt := rfl
theorem Ho_nt_spg {v9 : Ho} {y9 : Nat → Nat → Int64} : (v9.spg y9).nt = v9.nt := rfl
theorem Ho_nt_snp {v9 : Ho} {y9 : Nat} : (v9.snp y9).nt = v9.nt := rfl
theorem Ho_nr_swp {v9 : Ho} {y9 : Int64} : (v9.swp y9).nr = v9.nr := rfl
theorem Ho_nr_sws {v9 : Ho} {y9 : Int64} : (v9.sws y9).nr = v9.nr := rfl
theorem Ho_nr_swc {v9 : Ho} {y9 : Int32} : (v9.swc y9).nr = v9.nr := rfl
theorem Ho_nr_spg {v9 : Ho} {y9 : Nat → Nat → Int64} : (v9.spg y9).nr = v9.nr := rfl
theorem Ho_nr_snp {v9 : Ho} {y9 : Nat} : (v9.snp y9).nr = v9.nr := rfl
theorem Ho_ty_swp {v9 : Ho} {y9 : Int64} : (v9.swp y9).ty = v9.ty := rfl
theorem Ho_ty_sws {v9 : Ho} {y9 : Int64} : (v9.sws y9).ty = v9.ty := rfl
theorem Ho_ty_swc {v9 : Ho} {y9 : Int32} : (v9.swc y9).ty = v9.ty := rfl
theorem Ho_ty_spg {v9 : Ho} {y9 : Nat → Nat → Int64} : (v9.spg y9).ty = v9.ty := rfl
theorem Ho_ty_snp {v9 : Ho} {y9 : Nat} : (v9.snp y9).ty = v9.ty := rfl
theorem Ho_to_swp {v9 : Ho} {y9 : Int64} : (v9.swp y9).to = v9.to := rfl
theorem Ho_to_sws {v9 : Ho} {y9 : Int64} : (v9.sws y9).to = v9.to := rfl
theorem Ho_to_swc {v9 : Ho} {y9 : Int32} : (v9.swc y9).to = v9.to := rfl
theorem Ho_to_spg {v9 : Ho} {y9 : Nat → Nat → Int64} : (v9.spg y9).to = v9.to := rfl
theorem Ho_to_snp {v9 : Ho} {y9 : Nat} : (v9.snp y9).to = v9.to := rfl
theorem Ho_ro_swp {v9 : Ho} {y9 : Int64} : (v9.swp y9).ro = v9.ro := rfl
theorem Ho_ro_sws {v9 : Ho} {y9 : Int64} : (v9.sws y9).ro = v9.ro := rfl
theorem Ho_ro_swc {v9 : Ho} {y9 : Int32} : (v9.swc y9).ro = v9.ro := rfl
theorem Ho_ro_spg {v9 : Ho} {y9 : Nat → Nat → Int64} : (v9.spg y9).ro = v9.ro := rfl
theorem Ho_ro_snp {v9 : Ho} {y9 : Nat} : (v9.snp y9).ro = v9.ro := rfl
theorem Ho_gl_swp {v9 : Ho} {y9 : Int64} : (v9.swp y9).gl = v9.gl := rfl
theorem Ho_gl_sws {v9 : Ho} {y9 : Int64} : (v9.sws y9).gl = v9.gl := rfl
theorem Ho_gl_swc {v9 : Ho} {y9 : Int32} : (v9.swc y9).gl = v9.gl := rfl
theorem Ho_gl_spg {v9 : Ho} {y9 : Nat → Nat → Int64} : (v9.spg y9).gl = v9.gl := rfl
theorem Ho_gl_snp {v9 : Ho} {y9 : Nat} : (v9.snp y9).gl = v9.gl := rfl
theorem Ho_al_swp {v9 : Ho} {y9 : Int64} : (v9.swp y9).al = v9.al := rfl
theorem Ho_al_sws {v9 : Ho} {y9 : Int64} : (v9.sws y9).al = v9.al := rfl
theorem Ho_al_swc {v9 : Ho} {y9 : Int32} : (v9.swc y9).al = v9.al := rfl
theorem Ho_al_spg {v9 : Ho} {y9 : Nat → Nat → Int64} : (v9.spg y9).al = v9.al := rfl
theorem Ho_al_snp {v9 : Ho} {y9 : Nat} : (v9.snp y9).al = v9.al := rfl
theorem Ho_re_swp {v9 : Ho} {y9 : Int64} : (v9.swp y9).re = v9.re := rfl
theorem Ho_re_sws {v9 : Ho} {y9 : Int64} : (v9.sws y9).re = v9.re := rfl
theorem Ho_re_swc {v9 : Ho} {y9 : Int32} : (v9.swc y9).re = v9.re := rfl
theorem Ho_re_spg {v9 : Ho} {y9 : Nat → Nat → Int64} : (v9.spg y9).re = v9.re := rfl
theorem Ho_re_snp {v9 : Ho} {y9 : Nat} : (v9.snp y9).re = v9.re := rfl
theorem Ho_th_swp {v9 : Ho} {y9 : Int64} : (v9.swp y9).th = v9.th := rfl
theorem Ho_th_sws {v9 : Ho} {y9 : Int64} : (v9.sws y9).th = v9.th := rfl
theorem Ho_th_swc {v9 : Ho} {y9 : Int32} : (v9.swc y9).th = v9.th := rfl
theorem Ho_th_spg {v9 : Ho} {y9 : Nat → Nat → Int64} : (v9.spg y9).th = v9.th := rfl
theorem Ho_th_snp {v9 : Ho} {y9 : Nat} : (v9.snp y9).th = v9.th := rfl
theorem Ho_tc_swp {v9 : Ho} {y9 : Int64} : (v9.swp y9).tc = v9.tc := rfl
theorem Ho_tc_sws {v9 : Ho} {y9 : Int64} : (v9.sws y9).tc = v9.tc := rfl
theorem Ho_tc_swc {v9 : Ho} {y9 : Int32} : (v9.swc y9).tc = v9.tc := rfl
theorem Ho_tc_spg {v9 : Ho} {y9 : Nat → Nat → Int64} : (v9.spg y9).tc = v9.tc := rfl
theorem Ho_tc_snp {v9 : Ho} {y9 : Nat} : (v9.snp y9).tc = v9.tc := rfl
theorem Ho_rc_swp {v9 : Ho} {y9 : Int64} : (v9.swp y9).rc = v9.rc := rfl
theorem Ho_rc_sws {v9 : Ho} {y9 : Int64} : (v9.sws y9).rc = v9.rc := rfl
theorem Ho_rc_swc {v9 : Ho} {y9 : Int32} : (v9.swc y9).rc = v9.rc := rfl
theorem Ho_rc_spg {v9 : Ho} {y9 : Nat → Nat → Int64} : (v9.spg y9).rc = v9.rc := rfl
theorem Ho_rc_snp {v9 : Ho} {y9 : Nat} : (v9.snp y9).rc = v9.rc := rfl
theorem Ho_mk_swp {v9 : Ho} {y9 : Int64} : (v9.swp y9).mk = v9.mk := rfl
theorem Ho_mk_sws {v9 : Ho} {y9 : Int64} : (v9.sws y9).mk = v9.mk := rfl
theorem Ho_mk_swc {v9 : Ho} {y9 : Int32} : (v9.swc y9).mk = v9.mk := rfl
theorem Ho_mk_spg {v9 : Ho} {y9 : Nat → Nat → Int64} : (v9.spg y9).mk = v9.mk := rfl
theorem Ho_mk_snp {v9 : Ho} {y9 : Nat} : (v9.snp y9).mk = v9.mk := rfl
theorem Ho_fr_swp {v9 : Ho} {y9 : Int64} : (v9.swp y9).fr = v9.fr := rfl
theorem Ho_fr_sws {v9 : Ho} {y9 : Int64} : (v9.sws y9).fr = v9.fr := rfl
theorem Ho_fr_swc {v9 : Ho} {y9 : Int32} : (v9.swc y9).fr = v9.fr := rfl
theorem Ho_fr_spg {v9 : Ho} {y9 : Nat → Nat → Int64} : (v9.spg y9).fr = v9.fr := rfl
theorem Ho_fr_snp {v9 : Ho} {y9 : Nat} : (v9.snp y9).fr = v9.fr := rfl
theorem Ho_fn_swp {v9 : Ho} {y9 : Int64} : (v9.swp y9).fn = v9.fn := rfl
theorem Ho_fn_sws {v9 : Ho} {y9 : Int64} : (v9.sws y9).fn = v9.fn := rfl
theorem Ho_fn_swc {v9 : Ho} {y9 : Int32} : (v9.swc y9).fn = v9.fn := rfl
theorem Ho_fn_spg {v9 : Ho} {y9 : Nat → Nat → Int64} : (v9.spg y9).fn = v9.fn := rfl
theorem Ho_fn_snp {v9 : Ho} {y9 : Nat} : (v9.snp y9).fn = v9.fn := rfl
theorem Ho_st_swp {v9 : Ho} {y9 : Int64} : (v9.swp y9).st = v9.st := rfl
theorem Ho_st_sws {v9 : Ho} {y9 : Int64} : (v9.sws y9).st = v9.st := rfl
theorem Ho_st_swc {v9 : Ho} {y9 : Int32} : (v9.swc y9).st = v9.st := rfl
theorem Ho_st_spg {v9 : Ho} {y9 : Nat → Nat → Int64} : (v9.spg y9).st = v9.st := rfl
theorem Ho_st_snp {v9 : Ho} {y9 : Nat} : (v9.snp y9).st = v9.st := rfl
theorem Ho_rs_swp {v9 : Ho} {y9 : Int64} : (v9.swp y9).rs = v9.rs := rfl
theorem Ho_rs_sws {v9 : Ho} {y9 : Int64} : (v9.sws y9).rs = v9.rs := rfl
theorem Ho_rs_swc {v9 : Ho} {y9 : Int32} : (v9.swc y9).rs = v9.rs := rfl
theorem Ho_rs_spg {v9 : Ho} {y9 : Nat → Nat → Int64} : (v9.spg y9).rs = v9.rs := rfl
theorem Ho_rs_snp {v9 : Ho} {y9 : Nat} : (v9.snp y9).rs = v9.rs := rfl
theorem Ho_an_swp {v9 : Ho} {y9 : Int64} : (v9.swp y9).an = v9.an := rfl
theorem Ho_an_sws {v9 : Ho} {y9 : Int64} : (v9.sws y9).an = v9.an := rfl
theorem Ho_an_swc {v9 : Ho} {y9 : Int32} : (v9.swc y9).an = v9.an := rfl
theorem Ho_an_spg {v9 : Ho} {y9 : Nat → Nat → Int64} : (v9.spg y9).an = v9.an := rfl
theorem Ho_an_snp {v9 : Ho} {y9 : Nat} : (v9.snp y9).an = v9.an := rfl
theorem Ho_sp_swp {v9 : Ho} {y9 : Int64} : (v9.swp y9).sp = v9.sp := rfl
theorem Ho_sp_sws {v9 : Ho} {y9 : Int64} : (v9.sws y9).sp = v9.sp := rfl
theorem Ho_sp_swc {v9 : Ho} {y9 : Int32} : (v9.swc y9).sp = v9.sp := rfl
theorem Ho_sp_spg {v9 : Ho} {y9 : Nat → Nat → Int64} : (v9.spg y9).sp = v9.sp := rfl
theorem Ho_sp_snp {v9 : Ho} {y9 : Nat} : (v9.snp y9).sp = v9.sp := rfl
theorem Ho_np_swp {v9 : Ho} {y9 : Int64} : (v9.swp y9).np = v9.np := rfl
theorem Ho_np_sws {v9 : Ho} {y9 : Int64} : (v9.sws y9).np = v9.np := rfl
theorem Ho_np_swc {v9 : Ho} {y9 : Int32} : (v9.swc y9).np = v9.np := rfl
theorem Ho_np_spg {v9 : Ho} {y9 : Nat → Nat → Int64} : (v9.spg y9).np = v9.np := rfl
theorem Ho_np_snp {v9 : Ho} {y9 : Nat} : (v9.snp y9).np = y9 := rfl
theorem Ho_pg_swp {v9 : Ho} {y9 : Int64} : (v9.swp y9).pg = v9.pg := rfl
theorem Ho_pg_sws {v9 : Ho} {y9 : Int64} : (v9.sws y9).pg = v9.pg := rfl
theorem Ho_pg_swc {v9 : Ho} {y9 : Int32} : (v9.swc y9).pg = v9.pg := rfl
theorem Ho_pg_spg {v9 : Ho} {y9 : Nat → Nat → Int64} : (v9.spg y9).pg = y9 := rfl
theorem Ho_wc_swp {v9 : Ho} {y9 : Int64} : (v9.swp y9).wc = v9.wc := rfl
theorem Ho_wc_sws {v9 : Ho} {y9 : Int64} : (v9.sws y9).wc = v9.wc := rfl
theorem Ho_wc_swc {v9 : Ho} {y9 : Int32} : (v9.swc y9).wc = y9 := rfl
theorem Ho_ws_swp {v9 : Ho} {y9 : Int64} : (v9.swp y9).ws = v9.ws := rfl
theorem Ho_ws_sws {v9 : Ho} {y9 : Int64} : (v9.sws y9).ws = y9 := rfl
theorem Ho_wp_swp {v9 : Ho} {y9 : Int64} : (v9.swp y9).wp = y9 := rfl
theorem Ho_wc_spg {v9 : Ho} {y9 : Nat → Nat → Int64} : (v9.spg y9).wc = v9.wc := rfl
theorem Ho_ws_spg {v9 : Ho} {y9 : Nat → Nat → Int64} : (v9.spg y9).ws = v9.ws := rfl
theorem Ho_wp_spg {v9 : Ho} {y9 : Nat → Nat → Int64} : (v9.spg y9).wp = v9.wp := rfl
end SITES
/-! what is written: a page more, or not -/
theorem met_w {l : Launch} {y : MethodName} {ws : List Cond} {rm : Room} {D : va_G} {cl : List vw_C} {tys : List (ClassId × FieldType)} {EX : (Nat → Prop) → State → Heap → Prop} {G : gW} {sz : Nat} {av : List Value} {A : Nat → Prop} {mc ms : Nat} {fr : Addr → Prop} {post post2 : gW × Nat → Prop}
    (hM : Met l y ws rm (g_Pc D cl tys EX G sz av) (g_Qv D cl A post) mc ms fr) (h : (∀ q, sz ≤ q → G q = none) → ∀ u, post u → post2 u) : Met l y ws rm (g_Pc D cl tys EX G sz av) (g_Qv D cl A post2) mc ms fr :=
  Jvm.Free.MetFree.mono hM (fun _ _ h9 => h9) (fun _ _ _ _ _ h9 => h9) (fun a s o t hP q => by
    obtain ⟨⟨⟨u, h1, h2, h3⟩, h4⟩, h5⟩ := q
    refine ⟨⟨⟨u, h1, h (fun q9 hq => ?_) u h2, h3⟩, h4⟩, h5⟩
    cases hG : G q9 with
    | none => rfl
    | some e9 =>
      have h6 := g_lt hP.2.2.1 hG
      have h7 : s.heap.size = sz := hP.2.1
      omega)
theorem wk_div {n : Nat} (h : n < 2 ^ 31) : nI n / 512 = nI (n / 512) := by
  apply Int32.toInt_inj.mp
  rw [Int32.toInt_div_of_ne_right _ _ (by decide), nI_toInt h, nI_toInt (by omega), show (512 : Int32).toInt = 512 from by decide, Int.tdiv_eq_ediv_of_nonneg (by omega)]
  omega
def pix (Z : Ho) : Int32 := Z.wc - Z.wc / 512 * 512
def sX7_enlist (Z : Ho) (v : Int64) : Ho := if Z.np ≤ (Z.wc / 512).toNatClampNeg then (((((Z.snp (Z.np + 1)).spg (updN Z.pg Z.np (pU (fun _ => 0) 512 (pix Z) v))).swc (Z.wc + 1)).sws (pV Z.ws v)).swp ((Z.wp * 31) * 31))
  else ((((Z.spg (updN Z.pg (Z.wc / 512).toNatClampNeg (pU (Z.pg (Z.wc / 512).toNatClampNeg) 512 (pix Z) v))).swc (Z.wc + 1)).sws (pV Z.ws v)).swp ((Z.wp * 31) * 31))
def zPg (x : Xo) (k a e : Nat) : Zo := mkZ (fun q => if q = a then some (.pg k) else if q = a + 1 then some (.pv k) else if q = e then some .el else x.b q) x.cm x.ec (x.mc + 1) e (updN x.pp k a) (updN x.pq k (a + 1))
section PGS
variable {κ : Nat → Nat} {ar : Nat → ClassId} {x : Xo} {S : Ho} {G : gW} {a e k : Nat} {c : va_E} {t : Tg} {q : Nat}
theorem ov_s (h : x.b q = some t) : ov κ ar x S G q = some (cellH κ ar x S t) := by
  unfold ov
  rw [h]
theorem ov_0 (h : x.b q = none) : ov κ ar x S G q = G q := by
  unfold ov
  rw [h]
theorem ov_wpv {f : Nat → Int64} (hv : ∀ a t, x.b a = some t → x.a t = a) (h : x.b (x.a (.pv k)) = some (.pv k)) (hc : c = .inl (ar 1, 512, .inr (.inl f))) : g_up (ov κ ar x S G) (x.pq k) c = ov κ ar x (S.spg (updN S.pg k f)) G := by
  refine ov_w (t := .pv k) (x' := x) hv h rfl ?_ (fun t' q => ?_)
  · rw [hc]
    show _ = (.inl (ar 1, 512, .inr (.inl (updN S.pg k f k))) : va_E)
    rw [updN_s]
  rcases t' with j | j | j | j | j | j
  · rfl
  · rfl
  · rfl
  · rfl
  · rfl
  · rcases j with j | j
    · rfl
    · by_cases hj : j = k
      · subst hj
        exact absurd rfl q
      · show (.inl (ar 1, 512, .inr (.inl (updN S.pg k f j))) : va_E) = .inl (ar 1, 512, .inr (.inl (S.pg j)))
        rw [updN_o hj]
theorem up_page {P : Nat → Nat} {F : Nat → Option Nat} (hF : ∀ j, F j = if j < k then some (P j) else none) : va_up F k (some a) = fun j9 => if j9 < k + 1 then some (updN P k a j9) else none := by
  funext j
  by_cases h : j = k
  · subst h
    show va_up F j (some a) j = if j < j + 1 then some (updN P j a j) else none
    rw [updN_s, if_pos (Nat.lt_succ_self _)]
    exact if_pos rfl
  · show va_up F k (some a) j = if j < k + 1 then some (updN P k a j) else none
    rw [updN_o h]
    refine (if_neg h).trans ((hF j).trans ?_)
    by_cases h2 : j < k
    · rw [if_pos h2, if_pos (by omega)]
    · rw [if_neg h2, if_neg (by omega)]
theorem zPg_old (h0 : x.b a = none) (h1 : x.b (a + 1) = none) (he : x.b e = some .el ∨ x.b e = none) : ∀ q t, x.b q = some t → t ≠ .el → (x.pgs (zPg x k a e)).b q = some t := by
  intro q t z zt
  show (if q = a then some (.pg k) else if q = a + 1 then some (.pv k) else if q = e then some .el else x.b q) = some t
  rw [if_neg (fun y => by rw [y, h0] at z; cases z), if_neg (fun y => by rw [y, h1] at z; cases z), if_neg (fun y => by
    rw [y] at z
    rcases he with w | w
    · rw [w] at z; cases z; exact zt rfl
    · rw [w] at z; cases z)]
  exact z

set_option maxHeartbeats 1000000 in
theorem ov_page {T : Ho} {f : Nat → Int64} {wc : Int32} {ws wp : Int64} (h : OK x S) (hk : S.np = k) (h0 : x.b a = none) (h1 : x.b (a + 1) = none) (ha : e ≠ a) (ha1 : e ≠ a + 1) (hel : ∀ q, x.b q = some .el → q = e) (he : x.b e = some .el ∨ x.b e = none) (h_ab : T.ab = S.ab) (h_fc : T.fc = S.fc) (h_cn : T.cn = S.cn) (h_me : T.me = S.me) (h_nt : T.nt = S.nt) (h_nr : T.nr = S.nr) (h_ty : T.ty = S.ty) (h_to : T.to = S.to) (h_ro : T.ro = S.ro) (h_gl : T.gl = S.gl) (h_al : T.al = S.al) (h_re : T.re = S.re) (h_th : T.th = S.th) (h_tc : T.tc = S.tc) (h_rc : T.rc = S.rc) (h_mk : T.mk = S.mk) (h_fr : T.fr = S.fr) (h_fn : T.fn = S.fn) (h_st : T.st = S.st) (h_rs : T.rs = S.rs) (h_an : T.an = S.an) (h_sp : T.sp = S.sp) (h_np : T.np = k + 1) (h_pg : T.pg = updN S.pg k f) (h_wc : T.wc = wc) (h_ws : T.ws = ws) (h_wp : T.wp = wp) :
    g_up (g_up (g_up (g_up (g_up (ov κ ar x S G) a (.inr (8, [.ref (a + 1)]))) (a + 1) (.inl (ar 1, 512, .inr (.inl f)))) (x.f .pl) (.inr (5, [.int (x.mc + 1), .ref e, .int (Int32.ofNat (k + 1))]))) e (.inl (ar 8, 10, .inr (.inr (.inr (.inr (fun j9 => if j9 < k + 1 then some (updN x.pp k a j9) else none))))))) (x.f .wr) (.inr (13, [.ref (x.f .pl), .int wc, .long ws, .long wp])) = ov κ ar (x.pgs (zPg x k a e)) T G := by
  have npg : ∀ q, x.b q ≠ some (.pg k) := fun q z => by
    have z2 : decide (k < S.np) = true := h.w q _ z
    rw [hk] at z2
    exact absurd (of_decide_eq_true z2) (Nat.lt_irrefl _)
  have npv : ∀ q, x.b q ≠ some (.pv k) := fun q z => by
    have z2 : decide (k < S.np) = true := h.w q _ z
    rw [hk] at z2
    exact absurd (of_decide_eq_true z2) (Nat.lt_irrefl _)
  have old := zPg_old (k := k) h0 h1 he
  have bwr : x.b (x.f .wr) = some .wr := h.e .wr rfl
  have bpl : x.b (x.f .pl) = some .pl := h.e .pl rfl
  have hB : ∀ q, (x.pgs (zPg x k a e)).b q = if q = a then some (.pg k) else if q = a + 1 then some (.pv k) else if q = e then some .el else x.b q := fun _ => rfl
  funext q
  by_cases q0 : q = x.f .wr
  · subst q0
    refine g_up_s.trans (Eq.trans ?_ (ov_s (κ := κ) (ar := ar) (x := (x.pgs (zPg x k a e))) (S := T) (G := G) (t := .wr) (old _ _ bwr (fun z => by cases z))).symm)
    show some (.inr (13, [.ref (x.f .pl), .int wc, .long ws, .long wp]) : va_E) = some (.inr (13, [.ref (x.f .pl), .int T.wc, .long T.ws, .long T.wp]))
    rw [h_wc, h_ws, h_wp]
  refine (g_up_n q0).trans ?_
  by_cases q1 : q = e
  · rw [q1]
    refine g_up_s.trans (Eq.trans ?_ (ov_s (κ := κ) (ar := ar) (x := (x.pgs (zPg x k a e))) (S := T) (G := G) (t := .el) (by rw [hB, if_neg ha, if_neg ha1, if_pos rfl])).symm)
    show some (.inl (ar 8, 10, .inr (.inr (.inr (.inr (fun j9 => if j9 < k + 1 then some (updN x.pp k a j9) else none))))) : va_E) = some (.inl (ar 8, 10, .inr (.inr (.inr (.inr (fun j9 => if j9 < T.np then some (updN x.pp k a j9) else none))))))
    rw [h_np]
  refine (g_up_n q1).trans ?_
  by_cases q2 : q = x.f .pl
  · subst q2
    refine g_up_s.trans (Eq.trans ?_ (ov_s (κ := κ) (ar := ar) (x := (x.pgs (zPg x k a e))) (S := T) (G := G) (t := .pl) (old _ _ bpl (fun z => by cases z))).symm)
    show some (.inr (5, [.int (x.mc + 1), .ref e, .int (Int32.ofNat (k + 1))]) : va_E) = some (.inr (5, [.int (x.mc + 1), .ref (if T.np = 0 then κ 0 else e), .int (Int32.ofNat T.np)]))
    rw [h_np, if_neg (Nat.succ_ne_zero k)]
  refine (g_up_n q2).trans ?_
  by_cases q3 : q = a + 1
  · rw [q3]
    refine g_up_s.trans (Eq.trans ?_ (ov_s (κ := κ) (ar := ar) (x := (x.pgs (zPg x k a e))) (S := T) (G := G) (t := .pv k) (by rw [hB, if_neg (by omega), if_pos rfl])).symm)
    show some (.inl (ar 1, 512, .inr (.inl f)) : va_E) = some (.inl (ar 1, 512, .inr (.inl (T.pg k))))
    rw [h_pg, updN_s]
  refine (g_up_n q3).trans ?_
  by_cases q4 : q = a
  · rw [q4]
    refine g_up_s.trans (Eq.trans ?_ (ov_s (κ := κ) (ar := ar) (x := (x.pgs (zPg x k a e))) (S := T) (G := G) (t := .pg k) (by rw [hB, if_pos rfl])).symm)
    show some (.inr (8, [.ref (a + 1)]) : va_E) = some (.inr (8, [.ref (updN x.pq k (a + 1) k)]))
    rw [updN_s]
  refine (g_up_n q4).trans ?_
  have hb' : (x.pgs (zPg x k a e)).b q = x.b q := by rw [hB, if_neg q4, if_neg q3, if_neg q1]
  cases hbq : x.b q with
  | none => exact (ov_0 hbq).trans (ov_0 (hb'.trans hbq)).symm
  | some t =>
    refine (ov_s hbq).trans (Eq.trans ?_ (ov_s (hb'.trans hbq)).symm)
    have z := h.v q t hbq
    rcases t with j | j | j | j | j | j
    · rcases j with ⟨⟩ | ⟨⟩ | ⟨⟩ | ⟨⟩ | ⟨⟩ | ⟨⟩ | ⟨⟩ | ⟨⟩ | ⟨⟩ | ⟨⟩ | ⟨⟩ | ⟨⟩ | ⟨⟩
      · show some (.inr (14, [.ref (x.f .cl), .ref (x.f .me), .ref (x.f (.ro S.ty)), .int x.ht, .ref (x.f .gl), .ref (x.f .ts), .ref (x.f .fs), .int S.fn, .int S.st, .int S.rs, .long S.an, .int S.sp, .ref (x.f .wr)]) : va_E) = some (.inr (14, [.ref (x.f .cl), .ref (x.f .me), .ref (x.f (.ro T.ty)), .int x.ht, .ref (x.f .gl), .ref (x.f .ts), .ref (x.f .fs), .int T.fn, .int T.st, .int T.rs, .long T.an, .int T.sp, .ref (x.f .wr)]))
        rw [h_an, h_fn, h_rs, h_sp, h_st, h_ty]
      · show some (.inr (6, [.ref (x.f .ab), .ref (x.f .fc), .int S.cn]) : va_E) = some (.inr (6, [.ref (x.f .ab), .ref (x.f .fc), .int T.cn]))
        rw [h_cn]
      · show some (.inl (ar 0, 12, .inl S.ab) : va_E) = some (.inl (ar 0, 12, .inl T.ab))
        rw [h_ab]
      · show some (.inl (ar 0, 12, .inl S.fc) : va_E) = some (.inl (ar 0, 12, .inl T.fc))
        rw [h_fc]
      · show some (.inl (ar 7, 192, .inr (.inr (.inr (.inr (fun j9 => (S.me j9).map (fun k9 => x.f (.to k9))))))) : va_E) = some (.inl (ar 7, 192, .inr (.inr (.inr (.inr (fun j9 => (T.me j9).map (fun k9 => x.f (.to k9))))))))
        rw [h_me]
      · show some (.inl (ar 1, 8, .inr (.inl S.gl)) : va_E) = some (.inl (ar 1, 8, .inr (.inl T.gl)))
        rw [h_gl]
      · show some (.inr (11, [.ref (x.f .al), .ref (x.f .re), .int S.tc, .int S.rc, .int S.mk]) : va_E) = some (.inr (11, [.ref (x.f .al), .ref (x.f .re), .int T.tc, .int T.rc, .int T.mk]))
        rw [h_mk, h_rc, h_tc]
      · show some (.inl (ar 6, 60, .inr (.inr (.inr (.inr (fun j9 => (S.al j9).map (fun k9 => x.f (.th k9))))))) : va_E) = some (.inl (ar 6, 60, .inr (.inr (.inr (.inr (fun j9 => (T.al j9).map (fun k9 => x.f (.th k9))))))))
        rw [h_al]
      · show some (.inl (ar 6, 60, .inr (.inr (.inr (.inr (fun j9 => (S.re j9).map (fun k9 => x.f (.th k9))))))) : va_E) = some (.inl (ar 6, 60, .inr (.inr (.inr (.inr (fun j9 => (T.re j9).map (fun k9 => x.f (.th k9))))))))
        rw [h_re]
      · (show some (.inl (ar 5, 12, .inr (.inr (.inr (.inr (fun j9 => (fF j9).map (fun k9 => x.f (.fr k9))))))) : va_E) = some (.inl (ar 5, 12, .inr (.inr (.inr (.inr (fun j9 => (fF j9).map (fun k9 => x.f (.fr k9)))))))); rfl)
      · exact absurd z.symm q0
      · exact absurd z.symm q2
      · exact absurd (hel q hbq) q1
    · rcases j with j | j
      · show some (.inr (10, [.ref (x.f (.tp j)), .int (S.th j).n, .int (S.th j).c, .int (S.th j).z, .int (S.th j).r]) : va_E) = some (.inr (10, [.ref (x.f (.tp j)), .int (T.th j).n, .int (T.th j).c, .int (T.th j).z, .int (T.th j).r]))
        rw [h_th]
      · show some (.inl (ar 1, 8, .inr (.inl (S.th j).p)) : va_E) = some (.inl (ar 1, 8, .inr (.inl (T.th j).p)))
        rw [h_th]
    · rcases j with j | j | j | j
      · show some (.inr (7, [.ref (x.f (.fa j)), .ref (x.f (.ft j)), .ref (x.f (.fp j)), va_rf ((S.fr j).o.map (fun k9 => x.f (.to k9))), .long (S.fr j).v, .int (S.fr j).w, .int (S.fr j).d]) : va_E) = some (.inr (7, [.ref (x.f (.fa j)), .ref (x.f (.ft j)), .ref (x.f (.fp j)), va_rf ((T.fr j).o.map (fun k9 => x.f (.to k9))), .long (T.fr j).v, .int (T.fr j).w, .int (T.fr j).d]))
        rw [h_fr]
      · show some (.inl (ar 1, 2, .inr (.inl (S.fr j).a)) : va_E) = some (.inl (ar 1, 2, .inr (.inl (T.fr j).a)))
        rw [h_fr]
      · show some (.inl (ar 1, 4, .inr (.inl (S.fr j).t)) : va_E) = some (.inl (ar 1, 4, .inr (.inl (T.fr j).t)))
        rw [h_fr]
      · show some (.inl (ar 1, 8, .inr (.inl (S.fr j).p)) : va_E) = some (.inl (ar 1, 8, .inr (.inl (T.fr j).p)))
        rw [h_fr]
    · show some (.inr (12, [.int (S.to j).c, .int (S.to j).s, .int (S.to j).a, .int (S.to j).t, .ref (x.f (.ro (S.to j).q)), .int (S.to j).n, .int (x.cm j)]) : va_E) = some (.inr (12, [.int (T.to j).c, .int (T.to j).s, .int (T.to j).a, .int (T.to j).t, .ref (x.f (.ro (T.to j).q)), .int (T.to j).n, .int (x.cm j)]))
      rw [h_to]
    · rcases j with j | j | j | j | j | j
      · show some (.inr (9, [.ref (x.f (.rl j)), .ref (x.f (.rf j)), .ref (x.f (.rg j)), .ref (x.f (.rd j)), .ref (x.f (.rq j)), .int (S.ro j).n, .int (S.ro j).k]) : va_E) = some (.inr (9, [.ref (x.f (.rl j)), .ref (x.f (.rf j)), .ref (x.f (.rg j)), .ref (x.f (.rd j)), .ref (x.f (.rq j)), .int (T.ro j).n, .int (T.ro j).k]))
        rw [h_ro]
      · show some (.inl (ar 2, 24, .inl (S.ro j).l) : va_E) = some (.inl (ar 2, 24, .inl (T.ro j).l))
        rw [h_ro]
      · show some (.inl (ar 0, 24, .inl (S.ro j).f) : va_E) = some (.inl (ar 0, 24, .inl (T.ro j).f))
        rw [h_ro]
      · show some (.inl (ar 0, 24, .inl (S.ro j).g) : va_E) = some (.inl (ar 0, 24, .inl (T.ro j).g))
        rw [h_ro]
      · show some (.inl (ar 0, 24, .inl (S.ro j).d) : va_E) = some (.inl (ar 0, 24, .inl (T.ro j).d))
        rw [h_ro]
      · show some (.inl (ar 0, 24, .inl (S.ro j).q) : va_E) = some (.inl (ar 0, 24, .inl (T.ro j).q))
        rw [h_ro]
    · rcases j with j | j
      · by_cases hj : j = k
        · subst hj
          exact absurd hbq (npg q)
        · show some (.inr (8, [.ref (x.pq j)]) : va_E) = some (.inr (8, [.ref (updN x.pq k (a + 1) j)]))
          rw [updN_o hj]
      · by_cases hj : j = k
        · subst hj
          exact absurd hbq (npv q)
        · show some (.inl (ar 1, 512, .inr (.inl (S.pg j))) : va_E) = some (.inl (ar 1, 512, .inr (.inl (T.pg j))))
          rw [h_pg, updN_o hj]

set_option maxHeartbeats 1000000 in
theorem OK.page {T : Ho} (h : OK x S) (hk : S.np = k) (h0 : x.b a = none) (h1 : x.b (a + 1) = none) (ha : e ≠ a) (ha1 : e ≠ a + 1) (hel : ∀ q, x.b q = some .el → q = e) (he : x.b e = some .el ∨ x.b e = none) (h_nt : T.nt = S.nt) (h_nr : T.nr = S.nr) (h_np : T.np = k + 1) (h_ty : T.ty = S.ty) (h_me : T.me = S.me) (h_fr : T.fr = S.fr) (h_to : T.to = S.to) : OK (x.pgs (zPg x k a e)) T := by
  have npg : ∀ q, x.b q ≠ some (.pg k) := fun q z => by
    have z2 : decide (k < S.np) = true := h.w q _ z
    rw [hk] at z2
    exact absurd (of_decide_eq_true z2) (Nat.lt_irrefl _)
  have npv : ∀ q, x.b q ≠ some (.pv k) := fun q z => by
    have z2 : decide (k < S.np) = true := h.w q _ z
    rw [hk] at z2
    exact absurd (of_decide_eq_true z2) (Nat.lt_irrefl _)
  have old := zPg_old (k := k) h0 h1 he
  have hB : ∀ q, (x.pgs (zPg x k a e)).b q = if q = a then some (.pg k) else if q = a + 1 then some (.pv k) else if q = e then some .el else x.b q := fun _ => rfl
  refine ⟨fun t ht => ?_, fun q t hq => ?_, fun j k9 z => by rw [h_me] at z; rw [h_nt]; exact h.m z, fun i k9 z => by rw [h_fr] at z; rw [h_nt]; exact h.o z, fun k9 z => by rw [h_to, h_nr]; rw [h_nt] at z; exact h.q z, by rw [h_ty, h_nr]; exact h.y, fun q t hq => ?_⟩
  · rcases t with j | j | j | j | j | j
    · rcases j with ⟨⟩ | ⟨⟩ | ⟨⟩ | ⟨⟩ | ⟨⟩ | ⟨⟩ | ⟨⟩ | ⟨⟩ | ⟨⟩ | ⟨⟩ | ⟨⟩ | ⟨⟩ | ⟨⟩
      · show (x.pgs (zPg x k a e)).b (x.f .ho) = some .ho; exact old (x.f .ho) .ho (h.e .ho rfl) (fun z => by cases z)
      · show (x.pgs (zPg x k a e)).b (x.f .cl) = some .cl; exact old (x.f .cl) .cl (h.e .cl rfl) (fun z => by cases z)
      · show (x.pgs (zPg x k a e)).b (x.f .ab) = some .ab; exact old (x.f .ab) .ab (h.e .ab rfl) (fun z => by cases z)
      · show (x.pgs (zPg x k a e)).b (x.f .fc) = some .fc; exact old (x.f .fc) .fc (h.e .fc rfl) (fun z => by cases z)
      · show (x.pgs (zPg x k a e)).b (x.f .me) = some .me; exact old (x.f .me) .me (h.e .me rfl) (fun z => by cases z)
      · show (x.pgs (zPg x k a e)).b (x.f .gl) = some .gl; exact old (x.f .gl) .gl (h.e .gl rfl) (fun z => by cases z)
      · show (x.pgs (zPg x k a e)).b (x.f .ts) = some .ts; exact old (x.f .ts) .ts (h.e .ts rfl) (fun z => by cases z)
      · show (x.pgs (zPg x k a e)).b (x.f .al) = some .al; exact old (x.f .al) .al (h.e .al rfl) (fun z => by cases z)
      · show (x.pgs (zPg x k a e)).b (x.f .re) = some .re; exact old (x.f .re) .re (h.e .re rfl) (fun z => by cases z)
      · show (x.pgs (zPg x k a e)).b (x.f .fs) = some .fs; exact old (x.f .fs) .fs (h.e .fs rfl) (fun z => by cases z)
      · show (x.pgs (zPg x k a e)).b (x.f .wr) = some .wr; exact old (x.f .wr) .wr (h.e .wr rfl) (fun z => by cases z)
      · show (x.pgs (zPg x k a e)).b (x.f .pl) = some .pl; exact old (x.f .pl) .pl (h.e .pl rfl) (fun z => by cases z)
      · show (x.pgs (zPg x k a e)).b e = some .el
        rw [hB, if_neg ha, if_neg ha1, if_pos rfl]
    · rcases j with j | j
      · show (x.pgs (zPg x k a e)).b (x.f (.th j)) = some (.th j); exact old (x.f (.th j)) (.th j) (h.e (.th j) rfl) (fun z => by cases z)
      · show (x.pgs (zPg x k a e)).b (x.f (.tp j)) = some (.tp j); exact old (x.f (.tp j)) (.tp j) (h.e (.tp j) rfl) (fun z => by cases z)
    · rcases j with j | j | j | j
      · show (x.pgs (zPg x k a e)).b (x.f (.fr j)) = some (.fr j); exact old (x.f (.fr j)) (.fr j) (h.e (.fr j) rfl) (fun z => by cases z)
      · show (x.pgs (zPg x k a e)).b (x.f (.fa j)) = some (.fa j); exact old (x.f (.fa j)) (.fa j) (h.e (.fa j) rfl) (fun z => by cases z)
      · show (x.pgs (zPg x k a e)).b (x.f (.ft j)) = some (.ft j); exact old (x.f (.ft j)) (.ft j) (h.e (.ft j) rfl) (fun z => by cases z)
      · show (x.pgs (zPg x k a e)).b (x.f (.fp j)) = some (.fp j); exact old (x.f (.fp j)) (.fp j) (h.e (.fp j) rfl) (fun z => by cases z)
    · show (x.pgs (zPg x k a e)).b (x.f (.to j)) = some (.to j); exact old (x.f (.to j)) (.to j) (h.e_to (i := j) (by have ht' := of_decide_eq_true (show decide (j < T.nt) = true from ht); rw [h_nt] at ht'; exact ht')) (fun z => by cases z)
    · rcases j with j | j | j | j | j | j
      · show (x.pgs (zPg x k a e)).b (x.f (.ro j)) = some (.ro j); exact old (x.f (.ro j)) (.ro j) (h.e_ro (i := j) (by have ht' := of_decide_eq_true (show decide (j < T.nr) = true from ht); rw [h_nr] at ht'; exact ht')) (fun z => by cases z)
      · show (x.pgs (zPg x k a e)).b (x.f (.rl j)) = some (.rl j); exact old (x.f (.rl j)) (.rl j) (h.e_rl (i := j) (by have ht' := of_decide_eq_true (show decide (j < T.nr) = true from ht); rw [h_nr] at ht'; exact ht')) (fun z => by cases z)
      · show (x.pgs (zPg x k a e)).b (x.f (.rf j)) = some (.rf j); exact old (x.f (.rf j)) (.rf j) (h.e_rf (i := j) (by have ht' := of_decide_eq_true (show decide (j < T.nr) = true from ht); rw [h_nr] at ht'; exact ht')) (fun z => by cases z)
      · show (x.pgs (zPg x k a e)).b (x.f (.rg j)) = some (.rg j); exact old (x.f (.rg j)) (.rg j) (h.e_rg (i := j) (by have ht' := of_decide_eq_true (show decide (j < T.nr) = true from ht); rw [h_nr] at ht'; exact ht')) (fun z => by cases z)
      · show (x.pgs (zPg x k a e)).b (x.f (.rd j)) = some (.rd j); exact old (x.f (.rd j)) (.rd j) (h.e_rd (i := j) (by have ht' := of_decide_eq_true (show decide (j < T.nr) = true from ht); rw [h_nr] at ht'; exact ht')) (fun z => by cases z)
      · show (x.pgs (zPg x k a e)).b (x.f (.rq j)) = some (.rq j); exact old (x.f (.rq j)) (.rq j) (h.e_rq (i := j) (by have ht' := of_decide_eq_true (show decide (j < T.nr) = true from ht); rw [h_nr] at ht'; exact ht')) (fun z => by cases z)
    · rcases j with j | j
      · have ht' : decide (j < T.np) = true := ht
        rw [h_np] at ht'
        have hlt := of_decide_eq_true ht'
        by_cases hj : j = k
        · subst hj
          show (x.pgs (zPg x j a e)).b (updN x.pp j a j) = some (.pg j)
          rw [updN_s, hB, if_pos rfl]
        · show (x.pgs (zPg x k a e)).b (updN x.pp k a j) = some (.pg j)
          rw [updN_o hj]
          exact old _ _ (h.e_pg (i := j) (by omega)) (fun z => by cases z)
      · have ht' : decide (j < T.np) = true := ht
        rw [h_np] at ht'
        have hlt := of_decide_eq_true ht'
        by_cases hj : j = k
        · subst hj
          show (x.pgs (zPg x j a e)).b (updN x.pq j (a + 1) j) = some (.pv j)
          rw [updN_s, hB, if_neg (by omega), if_pos rfl]
        · show (x.pgs (zPg x k a e)).b (updN x.pq k (a + 1) j) = some (.pv j)
          rw [updN_o hj]
          exact old _ _ (h.e_pv (i := j) (by omega)) (fun z => by cases z)
  · rw [hB] at hq
    by_cases qa : q = a
    · rw [if_pos qa] at hq
      cases hq
      show updN x.pp k a k = q
      rw [updN_s, qa]
    rw [if_neg qa] at hq
    by_cases qb : q = a + 1
    · rw [if_pos qb] at hq
      cases hq
      show updN x.pq k (a + 1) k = q
      rw [updN_s, qb]
    rw [if_neg qb] at hq
    by_cases qe : q = e
    · rw [if_pos qe] at hq
      cases hq
      exact qe.symm
    rw [if_neg qe] at hq
    have z := h.v q t hq
    rcases t with j | j | j | j | j | j
    · rcases j with ⟨⟩ | ⟨⟩ | ⟨⟩ | ⟨⟩ | ⟨⟩ | ⟨⟩ | ⟨⟩ | ⟨⟩ | ⟨⟩ | ⟨⟩ | ⟨⟩ | ⟨⟩ | ⟨⟩
      · show x.f .ho = q; exact (show x.f .ho = q from z)
      · show x.f .cl = q; exact (show x.f .cl = q from z)
      · show x.f .ab = q; exact (show x.f .ab = q from z)
      · show x.f .fc = q; exact (show x.f .fc = q from z)
      · show x.f .me = q; exact (show x.f .me = q from z)
      · show x.f .gl = q; exact (show x.f .gl = q from z)
      · show x.f .ts = q; exact (show x.f .ts = q from z)
      · show x.f .al = q; exact (show x.f .al = q from z)
      · show x.f .re = q; exact (show x.f .re = q from z)
      · show x.f .fs = q; exact (show x.f .fs = q from z)
      · show x.f .wr = q; exact (show x.f .wr = q from z)
      · show x.f .pl = q; exact (show x.f .pl = q from z)
      · exact absurd (hel q hq) qe
    · rcases j with j | j
      · show x.f (.th j) = q; exact (show x.f (.th j) = q from z)
      · show x.f (.tp j) = q; exact (show x.f (.tp j) = q from z)
    · rcases j with j | j | j | j
      · show x.f (.fr j) = q; exact (show x.f (.fr j) = q from z)
      · show x.f (.fa j) = q; exact (show x.f (.fa j) = q from z)
      · show x.f (.ft j) = q; exact (show x.f (.ft j) = q from z)
      · show x.f (.fp j) = q; exact (show x.f (.fp j) = q from z)
    · show x.f (.to j) = q; exact (show x.f (.to j) = q from z)
    · rcases j with j | j | j | j | j | j
      · show x.f (.ro j) = q; exact (show x.f (.ro j) = q from z)
      · show x.f (.rl j) = q; exact (show x.f (.rl j) = q from z)
      · show x.f (.rf j) = q; exact (show x.f (.rf j) = q from z)
      · show x.f (.rg j) = q; exact (show x.f (.rg j) = q from z)
      · show x.f (.rd j) = q; exact (show x.f (.rd j) = q from z)
      · show x.f (.rq j) = q; exact (show x.f (.rq j) = q from z)
    · rcases j with j | j
      · by_cases hj : j = k
        · subst hj
          exact absurd hq (npg q)
        · show updN x.pp k a j = q
          rw [updN_o hj]
          exact z
      · by_cases hj : j = k
        · subst hj
          exact absurd hq (npv q)
        · show updN x.pq k (a + 1) j = q
          rw [updN_o hj]
          exact z
  · rw [hB] at hq
    by_cases qa : q = a
    · rw [if_pos qa] at hq
      cases hq
      exact decide_eq_true (show k < T.np by omega)
    rw [if_neg qa] at hq
    by_cases qb : q = a + 1
    · rw [if_pos qb] at hq
      cases hq
      exact decide_eq_true (show k < T.np by omega)
    rw [if_neg qb] at hq
    by_cases qe : q = e
    · rw [if_pos qe] at hq
      cases hq
      exact decide_eq_true (show 0 < T.np by omega)
    rw [if_neg qe] at hq
    exact vl_mono (S := S) (T := T) (Nat.le_of_eq h_nt.symm) (Nat.le_of_eq h_nr.symm) (by omega) (h.w q t hq)

theorem BX_page {sz : Nat} (ha : sz ≤ a) (hx : x.b e = some .el ∨ sz ≤ e) : BX x (zPg x k a e) sz := by
  intro q t hq
  have hB : (zPg x k a e).b q = if q = a then some (.pg k) else if q = a + 1 then some (.pv k) else if q = e then some .el else x.b q := rfl
  rw [hB] at hq
  by_cases qa : q = a
  · exact Or.inr (by omega)
  rw [if_neg qa] at hq
  by_cases qb : q = a + 1
  · exact Or.inr (by omega)
  rw [if_neg qb] at hq
  by_cases qe : q = e
  · rw [if_pos qe] at hq
    cases hq
    rcases hx with y | y
    · exact Or.inl (by rw [qe]; exact y)
    · exact Or.inr (by omega)
  rw [if_neg qe] at hq
  exact Or.inl hq
end PGS
theorem hX7_enlist (l : Launch) (D : va_G) (ar : Nat → ClassId) (κ : Nat → Nat) (G : gW) (x : Xo) (Z : Ho) (sz : Nat) (v0 : Int64) (hk : OK x Z) (hw : Wk Z) : Met l yX7_enlist (lwC yX7_enlist cX7_enlist 5 none) (rD 5 (3 * ((sX7_enlist Z v0).np - Z.np)) (523 * ((sX7_enlist Z v0).np - Z.np))) (g_Pc D vwCl (gT ar) (EX1 κ) (ov κ ar x Z G) sz [.ref (x.f .wr), .long v0]) (g_Qv D vwCl (g_A (ov κ ar x Z G) sz) (fun u => ∃ z9 : Zo, ∃ T9 : Ho, sX7_enlist Z v0 = T9 ∧ u.1 = ov κ ar (x.pgs z9) T9 G ∧ OK (x.pgs z9) T9 ∧ BX x z9 sz ∧ SZW T9 Z)) (3 * ((sX7_enlist Z v0).np - Z.np)) (523 * ((sX7_enlist Z v0).np - Z.np)) (g_A (ov κ ar x Z G) sz) := by
  obtain ⟨n, hn, hwc, hnp⟩ := hw
  have hd : Z.wc / 512 = nI (n / 512) := by rw [hwc]; exact wk_div (by omega)
  have hc : (Z.wc / 512).toNatClampNeg = n / 512 := by rw [hd]; exact nI_clamp (by omega)
  have hwr : ov κ ar x Z G (x.f .wr) = some (.inr (13, [.ref (x.f .pl), .int Z.wc, .long Z.ws, .long Z.wp])) := ov_r (t := .wr) (hk.e .wr rfl)
  have hpl : ov κ ar x Z G (x.f .pl) = some (.inr (5, [.int x.mc, .ref (if Z.np = 0 then κ 0 else x.pe), .int (Int32.ofNat Z.np)])) := ov_r (t := .pl) (hk.e .pl rfl)
  by_cases h9 : Z.np ≤ n / 512
  · have e1 : Z.np = n / 512 := by omega
    have es : sX7_enlist Z v0 = (((((Z.snp (Z.np + 1)).spg (updN Z.pg Z.np (pU (fun _ => 0) 512 (pix Z) v0))).swc (Z.wc + 1)).sws (pV Z.ws v0)).swp ((Z.wp * 31) * 31)) := if_pos (by rw [hc]; exact h9)
    have e0 : (sX7_enlist Z v0).np - Z.np = 1 := by
      rw [es, (Ho_np_swp.trans (Ho_np_sws.trans (Ho_np_swc.trans (Ho_np_spg.trans Ho_np_snp))))]
      omega
    rw [e0]
    by_cases hz : Z.np = 0
    · have hn0 : n = 0 := by omega
      have hw0 : Z.wc = 0 := by rw [hwc, hn0]; exact nI_0
      have hp0 : pix Z = 0 := by unfold pix; rw [hw0]; decide
      rw [if_pos hz, hz] at hpl
      rw [hw0] at hwr
      refine met_w (c_X7_en3 l D ar κ (ov κ ar x Z G) sz (x.f .wr) v0 (x.f .pl) Z.ws Z.wp x.mc hwr hpl) (fun hnn u hu => ?_)
      have b0 := ov_b0 (hnn sz (Nat.le_refl _))
      have b1 := ov_b0 (hnn (sz + 1) (by omega))
      have b2 := ov_b0 (hnn (sz + 2) (by omega))
      have hel : ∀ q, x.b q = some .el → q = sz + 2 := fun q z => by
        have z2 : decide (0 < Z.np) = true := hk.w q _ z
        exact absurd (of_decide_eq_true z2) (by omega)
      refine ⟨zPg x Z.np sz (sz + 2), _, es, ?_, OK.page hk rfl b0 b1 (by omega) (by omega) hel (Or.inr b2) (Ho_nt_swp.trans (Ho_nt_sws.trans (Ho_nt_swc.trans (Ho_nt_spg.trans Ho_nt_snp)))) (Ho_nr_swp.trans (Ho_nr_sws.trans (Ho_nr_swc.trans (Ho_nr_spg.trans Ho_nr_snp)))) (Ho_np_swp.trans (Ho_np_sws.trans (Ho_np_swc.trans (Ho_np_spg.trans Ho_np_snp)))) (Ho_ty_swp.trans (Ho_ty_sws.trans (Ho_ty_swc.trans (Ho_ty_spg.trans Ho_ty_snp)))) (Ho_me_swp.trans (Ho_me_sws.trans (Ho_me_swc.trans (Ho_me_spg.trans Ho_me_snp)))) (Ho_fr_swp.trans (Ho_fr_sws.trans (Ho_fr_swc.trans (Ho_fr_spg.trans Ho_fr_snp)))) (Ho_to_swp.trans (Ho_to_sws.trans (Ho_to_swc.trans (Ho_to_spg.trans Ho_to_snp)))), BX_page (Nat.le_refl _) (Or.inr (by omega)), (Ho_nt_swp.trans (Ho_nt_sws.trans (Ho_nt_swc.trans (Ho_nt_spg.trans Ho_nt_snp)))), (Ho_nr_swp.trans (Ho_nr_sws.trans (Ho_nr_swc.trans (Ho_nr_spg.trans Ho_nr_snp)))), Nat.le_trans (Nat.le_succ _) (Nat.le_of_eq (Ho_np_swp.trans (Ho_np_sws.trans (Ho_np_swc.trans (Ho_np_spg.trans Ho_np_snp)))).symm)⟩
      subst hu
      have e2 : va_up (fun _ => none) (Int32.toNatClampNeg 0) (some sz) = fun j9 => if j9 < Z.np + 1 then some (updN x.pp Z.np sz j9) else none := by
        rw [show Int32.toNatClampNeg 0 = Z.np from hz ▸ nI_clamp (n := 0) (by decide)]
        exact up_page (P := x.pp) (fun j => by rw [hz, if_neg (Nat.not_lt_zero j)])
      have e3 : (1 : Int32) = Int32.ofNat (Z.np + 1) := by rw [hz]; rfl
      have e4 : (1 : Int32) = Z.wc + 1 := by rw [hw0]; rfl
      refine Eq.trans ?_ (ov_page (f := pU (fun _ => 0) 512 (pix Z) v0) (wc := Z.wc + 1) (ws := pV Z.ws v0) (wp := (Z.wp * 31) * 31) hk rfl b0 b1 (by omega) (by omega) hel (Or.inr b2) (Ho_ab_swp.trans (Ho_ab_sws.trans (Ho_ab_swc.trans (Ho_ab_spg.trans Ho_ab_snp)))) (Ho_fc_swp.trans (Ho_fc_sws.trans (Ho_fc_swc.trans (Ho_fc_spg.trans Ho_fc_snp)))) (Ho_cn_swp.trans (Ho_cn_sws.trans (Ho_cn_swc.trans (Ho_cn_spg.trans Ho_cn_snp)))) (Ho_me_swp.trans (Ho_me_sws.trans (Ho_me_swc.trans (Ho_me_spg.trans Ho_me_snp)))) (Ho_nt_swp.trans (Ho_nt_sws.trans (Ho_nt_swc.trans (Ho_nt_spg.trans Ho_nt_snp)))) (Ho_nr_swp.trans (Ho_nr_sws.trans (Ho_nr_swc.trans (Ho_nr_spg.trans Ho_nr_snp)))) (Ho_ty_swp.trans (Ho_ty_sws.trans (Ho_ty_swc.trans (Ho_ty_spg.trans Ho_ty_snp)))) (Ho_to_swp.trans (Ho_to_sws.trans (Ho_to_swc.trans (Ho_to_spg.trans Ho_to_snp)))) (Ho_ro_swp.trans (Ho_ro_sws.trans (Ho_ro_swc.trans (Ho_ro_spg.trans Ho_ro_snp)))) (Ho_gl_swp.trans (Ho_gl_sws.trans (Ho_gl_swc.trans (Ho_gl_spg.trans Ho_gl_snp)))) (Ho_al_swp.trans (Ho_al_sws.trans (Ho_al_swc.trans (Ho_al_spg.trans Ho_al_snp)))) (Ho_re_swp.trans (Ho_re_sws.trans (Ho_re_swc.trans (Ho_re_spg.trans Ho_re_snp)))) (Ho_th_swp.trans (Ho_th_sws.trans (Ho_th_swc.trans (Ho_th_spg.trans Ho_th_snp)))) (Ho_tc_swp.trans (Ho_tc_sws.trans (Ho_tc_swc.trans (Ho_tc_spg.trans Ho_tc_snp)))) (Ho_rc_swp.trans (Ho_rc_sws.trans (Ho_rc_swc.trans (Ho_rc_spg.trans Ho_rc_snp)))) (Ho_mk_swp.trans (Ho_mk_sws.trans (Ho_mk_swc.trans (Ho_mk_spg.trans Ho_mk_snp)))) (Ho_fr_swp.trans (Ho_fr_sws.trans (Ho_fr_swc.trans (Ho_fr_spg.trans Ho_fr_snp)))) (Ho_fn_swp.trans (Ho_fn_sws.trans (Ho_fn_swc.trans (Ho_fn_spg.trans Ho_fn_snp)))) (Ho_st_swp.trans (Ho_st_sws.trans (Ho_st_swc.trans (Ho_st_spg.trans Ho_st_snp)))) (Ho_rs_swp.trans (Ho_rs_sws.trans (Ho_rs_swc.trans (Ho_rs_spg.trans Ho_rs_snp)))) (Ho_an_swp.trans (Ho_an_sws.trans (Ho_an_swc.trans (Ho_an_spg.trans Ho_an_snp)))) (Ho_sp_swp.trans (Ho_sp_sws.trans (Ho_sp_swc.trans (Ho_sp_spg.trans Ho_sp_snp)))) (Ho_np_swp.trans (Ho_np_sws.trans (Ho_np_swc.trans (Ho_np_spg.trans Ho_np_snp)))) (Ho_pg_swp.trans (Ho_pg_sws.trans (Ho_pg_swc.trans Ho_pg_spg))) (Ho_wc_swp.trans (Ho_wc_sws.trans Ho_wc_swc)) (Ho_ws_swp.trans Ho_ws_sws) Ho_wp_swp)
      rw [← e3, ← e4, ← e2, hp0]
    · rw [if_neg hz] at hpl
      have hel9 : x.b x.pe = some .el := hk.e .el (decide_eq_true (by omega))
      have hE : ov κ ar x Z G x.pe = some (.inl (ar 8, 10, .inr (.inr (.inr (.inr (fun j9 => if j9 < Z.np then some (x.pp j9) else none)))))) := ov_r (t := .el) hel9
      refine met_w (c_X7_en2 l D ar κ (ov κ ar x Z G) sz (x.f .wr) v0 (x.f .pl) Z.wc Z.ws Z.wp x.mc x.pe (Int32.ofNat Z.np) _ hwr hpl hE (by rw [hd]; exact nI_lt (b := 6400) (by omega) (by decide)) (by rw [hd, ← e1]; rfl) Int32.lt_irrefl (fun z => by
          have := (nI_eq (a := Z.np) (b := 10) (by omega) (by decide)).mp z
          omega) (vp_in_nI (by omega) (by decide)) (isB_n.mpr ⟨by rw [hd]; exact nI_pos (by omega), by rw [hd, show Int32.ofNat Z.np + 1 = nI (Z.np + 1) from nI_1 _]; exact nI_ge (by omega) (by omega)⟩) (by rw [hd]; exact vp_in_nI (by omega) (by decide))) (fun hnn u hu => ?_)
      have b0 := ov_b0 (hnn sz (Nat.le_refl _))
      have b1 := ov_b0 (hnn (sz + 1) (by omega))
      have hel : ∀ q, x.b q = some .el → q = x.pe := fun q z => (hk.v q _ z).symm
      have ha : x.pe ≠ sz := fun y => by rw [y, b0] at hel9; cases hel9
      have ha1 : x.pe ≠ sz + 1 := fun y => by rw [y, b1] at hel9; cases hel9
      refine ⟨zPg x Z.np sz x.pe, _, es, ?_, OK.page hk rfl b0 b1 ha ha1 hel (Or.inl hel9) (Ho_nt_swp.trans (Ho_nt_sws.trans (Ho_nt_swc.trans (Ho_nt_spg.trans Ho_nt_snp)))) (Ho_nr_swp.trans (Ho_nr_sws.trans (Ho_nr_swc.trans (Ho_nr_spg.trans Ho_nr_snp)))) (Ho_np_swp.trans (Ho_np_sws.trans (Ho_np_swc.trans (Ho_np_spg.trans Ho_np_snp)))) (Ho_ty_swp.trans (Ho_ty_sws.trans (Ho_ty_swc.trans (Ho_ty_spg.trans Ho_ty_snp)))) (Ho_me_swp.trans (Ho_me_sws.trans (Ho_me_swc.trans (Ho_me_spg.trans Ho_me_snp)))) (Ho_fr_swp.trans (Ho_fr_sws.trans (Ho_fr_swc.trans (Ho_fr_spg.trans Ho_fr_snp)))) (Ho_to_swp.trans (Ho_to_sws.trans (Ho_to_swc.trans (Ho_to_spg.trans Ho_to_snp)))), BX_page (Nat.le_refl _) (Or.inl hel9), (Ho_nt_swp.trans (Ho_nt_sws.trans (Ho_nt_swc.trans (Ho_nt_spg.trans Ho_nt_snp)))), (Ho_nr_swp.trans (Ho_nr_sws.trans (Ho_nr_swc.trans (Ho_nr_spg.trans Ho_nr_snp)))), Nat.le_trans (Nat.le_succ _) (Nat.le_of_eq (Ho_np_swp.trans (Ho_np_sws.trans (Ho_np_swc.trans (Ho_np_spg.trans Ho_np_snp)))).symm)⟩
      subst hu
      have e2 : va_up (fun j9 => if j9 < Z.np then some (x.pp j9) else none) (Int32.toNatClampNeg (Int32.ofNat Z.np)) (some sz) = fun j9 => if j9 < Z.np + 1 then some (updN x.pp Z.np sz j9) else none := by
        rw [show Int32.toNatClampNeg (Int32.ofNat Z.np) = Z.np from nI_clamp (by omega)]
        exact up_page (fun _ => rfl)
      have e3 : Int32.ofNat Z.np + 1 = Int32.ofNat (Z.np + 1) := nI_1 _
      refine Eq.trans ?_ (ov_page (f := pU (fun _ => 0) 512 (pix Z) v0) (wc := Z.wc + 1) (ws := pV Z.ws v0) (wp := (Z.wp * 31) * 31) hk rfl b0 b1 ha ha1 hel (Or.inl hel9) (Ho_ab_swp.trans (Ho_ab_sws.trans (Ho_ab_swc.trans (Ho_ab_spg.trans Ho_ab_snp)))) (Ho_fc_swp.trans (Ho_fc_sws.trans (Ho_fc_swc.trans (Ho_fc_spg.trans Ho_fc_snp)))) (Ho_cn_swp.trans (Ho_cn_sws.trans (Ho_cn_swc.trans (Ho_cn_spg.trans Ho_cn_snp)))) (Ho_me_swp.trans (Ho_me_sws.trans (Ho_me_swc.trans (Ho_me_spg.trans Ho_me_snp)))) (Ho_nt_swp.trans (Ho_nt_sws.trans (Ho_nt_swc.trans (Ho_nt_spg.trans Ho_nt_snp)))) (Ho_nr_swp.trans (Ho_nr_sws.trans (Ho_nr_swc.trans (Ho_nr_spg.trans Ho_nr_snp)))) (Ho_ty_swp.trans (Ho_ty_sws.trans (Ho_ty_swc.trans (Ho_ty_spg.trans Ho_ty_snp)))) (Ho_to_swp.trans (Ho_to_sws.trans (Ho_to_swc.trans (Ho_to_spg.trans Ho_to_snp)))) (Ho_ro_swp.trans (Ho_ro_sws.trans (Ho_ro_swc.trans (Ho_ro_spg.trans Ho_ro_snp)))) (Ho_gl_swp.trans (Ho_gl_sws.trans (Ho_gl_swc.trans (Ho_gl_spg.trans Ho_gl_snp)))) (Ho_al_swp.trans (Ho_al_sws.trans (Ho_al_swc.trans (Ho_al_spg.trans Ho_al_snp)))) (Ho_re_swp.trans (Ho_re_sws.trans (Ho_re_swc.trans (Ho_re_spg.trans Ho_re_snp)))) (Ho_th_swp.trans (Ho_th_sws.trans (Ho_th_swc.trans (Ho_th_spg.trans Ho_th_snp)))) (Ho_tc_swp.trans (Ho_tc_sws.trans (Ho_tc_swc.trans (Ho_tc_spg.trans Ho_tc_snp)))) (Ho_rc_swp.trans (Ho_rc_sws.trans (Ho_rc_swc.trans (Ho_rc_spg.trans Ho_rc_snp)))) (Ho_mk_swp.trans (Ho_mk_sws.trans (Ho_mk_swc.trans (Ho_mk_spg.trans Ho_mk_snp)))) (Ho_fr_swp.trans (Ho_fr_sws.trans (Ho_fr_swc.trans (Ho_fr_spg.trans Ho_fr_snp)))) (Ho_fn_swp.trans (Ho_fn_sws.trans (Ho_fn_swc.trans (Ho_fn_spg.trans Ho_fn_snp)))) (Ho_st_swp.trans (Ho_st_sws.trans (Ho_st_swc.trans (Ho_st_spg.trans Ho_st_snp)))) (Ho_rs_swp.trans (Ho_rs_sws.trans (Ho_rs_swc.trans (Ho_rs_spg.trans Ho_rs_snp)))) (Ho_an_swp.trans (Ho_an_sws.trans (Ho_an_swc.trans (Ho_an_spg.trans Ho_an_snp)))) (Ho_sp_swp.trans (Ho_sp_sws.trans (Ho_sp_swc.trans (Ho_sp_spg.trans Ho_sp_snp)))) (Ho_np_swp.trans (Ho_np_sws.trans (Ho_np_swc.trans (Ho_np_spg.trans Ho_np_snp)))) (Ho_pg_swp.trans (Ho_pg_sws.trans (Ho_pg_swc.trans Ho_pg_spg))) (Ho_wc_swp.trans (Ho_wc_sws.trans Ho_wc_swc)) (Ho_ws_swp.trans Ho_ws_sws) Ho_wp_swp)
      rw [← e3, ← e2]
      rfl
  · have hlt : n / 512 < Z.np := Nat.lt_of_not_le h9
    have es : sX7_enlist Z v0 = ((((Z.spg (updN Z.pg (n / 512) (pU (Z.pg (n / 512)) 512 (pix Z) v0))).swc (Z.wc + 1)).sws (pV Z.ws v0)).swp ((Z.wp * 31) * 31)) := by
      unfold sX7_enlist
      rw [hc, if_neg h9]
    have e0 : (sX7_enlist Z v0).np - Z.np = 0 := by
      rw [es, (Ho_np_swp.trans (Ho_np_sws.trans (Ho_np_swc.trans Ho_np_spg)))]
      omega
    rw [e0]
    rw [if_neg (show ¬ Z.np = 0 by omega)] at hpl
    have hE : ov κ ar x Z G x.pe = some (.inl (ar 8, 10, .inr (.inr (.inr (.inr (fun j9 => if j9 < Z.np then some (x.pp j9) else none)))))) := ov_r (t := .el) (hk.e .el (decide_eq_true (by omega)))
    have hpg : ov κ ar x Z G (x.pp (n / 512)) = some (.inr (8, [.ref (x.pq (n / 512))])) := ov_r (t := .pg (n / 512)) (hk.e_pg hlt)
    have hpv : ov κ ar x Z G (x.pq (n / 512)) = some (.inl (ar 1, 512, .inr (.inl (Z.pg (n / 512))))) := ov_r (t := .pv (n / 512)) (hk.e_pv hlt)
    refine met_w (c_X7_en1 l D ar κ (ov κ ar x Z G) sz (x.f .wr) v0 (x.f .pl) Z.wc Z.ws Z.wp x.mc x.pe (Int32.ofNat Z.np) _ (x.pp (n / 512)) (x.pq (n / 512)) (Z.pg (n / 512)) hwr hpl hE hpg hpv (by rw [hd]; exact nI_lt (b := 6400) (by omega) (by decide)) (by rw [hd]; exact nI_lt hlt (by omega)) (isB_n.mpr ⟨by rw [hd]; exact nI_pos (by omega), by rw [hd]; exact nI_ge hlt (by omega)⟩) (by rw [hd]; exact vp_in_nI (by omega) (by decide)) (by rw [hc]; exact if_pos hlt)) (fun hnn u hu => ?_)
    refine ⟨x.z, _, es, ?_, hk.plain (Ho_nt_swp.trans (Ho_nt_sws.trans (Ho_nt_swc.trans Ho_nt_spg))) (Ho_nr_swp.trans (Ho_nr_sws.trans (Ho_nr_swc.trans Ho_nr_spg))) (Ho_np_swp.trans (Ho_np_sws.trans (Ho_np_swc.trans Ho_np_spg))) (Ho_ty_swp.trans (Ho_ty_sws.trans (Ho_ty_swc.trans Ho_ty_spg))) (Ho_me_swp.trans (Ho_me_sws.trans (Ho_me_swc.trans Ho_me_spg))) (Ho_fr_swp.trans (Ho_fr_sws.trans (Ho_fr_swc.trans Ho_fr_spg))) (Ho_to_swp.trans (Ho_to_sws.trans (Ho_to_swc.trans Ho_to_spg))), fun a9 t9 h => Or.inl h, (Ho_nt_swp.trans (Ho_nt_sws.trans (Ho_nt_swc.trans Ho_nt_spg))), (Ho_nr_swp.trans (Ho_nr_sws.trans (Ho_nr_swc.trans Ho_nr_spg))), Nat.le_of_eq (Ho_np_swp.trans (Ho_np_sws.trans (Ho_np_swc.trans Ho_np_spg))).symm⟩
    subst hu
    refine (congrArg (fun Z9 => g_up Z9 (x.f .wr) (.inr (13, [.ref (x.f .pl), .int (Z.wc + 1), .long (pV Z.ws v0), .long ((Z.wp * 31) * 31)]))) (ov_wpv (f := pU (Z.pg (n / 512)) 512 (pix Z) v0) hk.v (hk.e_pv hlt) rfl)).trans ?_
    exact ov_wwr (S := Z.spg (updN Z.pg (n / 512) (pU (Z.pg (n / 512)) 512 (pix Z) v0))) (T := ((((Z.spg (updN Z.pg (n / 512) (pU (Z.pg (n / 512)) 512 (pix Z) v0))).swc (Z.wc + 1)).sws (pV Z.ws v0)).swp ((Z.wp * 31) * 31))) hk.v (hk.e .wr rfl) (by rw [(Ho_wc_swp.trans (Ho_wc_sws.trans Ho_wc_swc)), (Ho_ws_swp.trans Ho_ws_sws), Ho_wp_swp]) ((Ho_ab_swp.trans (Ho_ab_sws.trans (Ho_ab_swc.trans Ho_ab_spg))).trans Ho_ab_spg.symm) ((Ho_fc_swp.trans (Ho_fc_sws.trans (Ho_fc_swc.trans Ho_fc_spg))).trans Ho_fc_spg.symm) ((Ho_cn_swp.trans (Ho_cn_sws.trans (Ho_cn_swc.trans Ho_cn_spg))).trans Ho_cn_spg.symm) ((Ho_me_swp.trans (Ho_me_sws.trans (Ho_me_swc.trans Ho_me_spg))).trans Ho_me_spg.symm) ((Ho_nt_swp.trans (Ho_nt_sws.trans (Ho_nt_swc.trans Ho_nt_spg))).trans Ho_nt_spg.symm) ((Ho_nr_swp.trans (Ho_nr_sws.trans (Ho_nr_swc.trans Ho_nr_spg))).trans Ho_nr_spg.symm) ((Ho_ty_swp.trans (Ho_ty_sws.trans (Ho_ty_swc.trans Ho_ty_spg))).trans Ho_ty_spg.symm) ((Ho_to_swp.trans (Ho_to_sws.trans (Ho_to_swc.trans Ho_to_spg))).trans Ho_to_spg.symm) ((Ho_ro_swp.trans (Ho_ro_sws.trans (Ho_ro_swc.trans Ho_ro_spg))).trans Ho_ro_spg.symm) ((Ho_gl_swp.trans (Ho_gl_sws.trans (Ho_gl_swc.trans Ho_gl_spg))).trans Ho_gl_spg.symm) ((Ho_al_swp.trans (Ho_al_sws.trans (Ho_al_swc.trans Ho_al_spg))).trans Ho_al_spg.symm) ((Ho_re_swp.trans (Ho_re_sws.trans (Ho_re_swc.trans Ho_re_spg))).trans Ho_re_spg.symm) ((Ho_th_swp.trans (Ho_th_sws.trans (Ho_th_swc.trans Ho_th_spg))).trans Ho_th_spg.symm) ((Ho_tc_swp.trans (Ho_tc_sws.trans (Ho_tc_swc.trans Ho_tc_spg))).trans Ho_tc_spg.symm) ((Ho_rc_swp.trans (Ho_rc_sws.trans (Ho_rc_swc.trans Ho_rc_spg))).trans Ho_rc_spg.symm) ((Ho_mk_swp.trans (Ho_mk_sws.trans (Ho_mk_swc.trans Ho_mk_spg))).trans Ho_mk_spg.symm) ((Ho_fr_swp.trans (Ho_fr_sws.trans (Ho_fr_swc.trans Ho_fr_spg))).trans Ho_fr_spg.symm) ((Ho_fn_swp.trans (Ho_fn_sws.trans (Ho_fn_swc.trans Ho_fn_spg))).trans Ho_fn_spg.symm) ((Ho_st_swp.trans (Ho_st_sws.trans (Ho_st_swc.trans Ho_st_spg))).trans Ho_st_spg.symm) ((Ho_rs_swp.trans (Ho_rs_sws.trans (Ho_rs_swc.trans Ho_rs_spg))).trans Ho_rs_spg.symm) ((Ho_an_swp.trans (Ho_an_sws.trans (Ho_an_swc.trans Ho_an_spg))).trans Ho_an_spg.symm) ((Ho_sp_swp.trans (Ho_sp_sws.trans (Ho_sp_swc.trans Ho_sp_spg))).trans Ho_sp_spg.symm) ((Ho_np_swp.trans (Ho_np_sws.trans (Ho_np_swc.trans Ho_np_spg))).trans Ho_np_spg.symm) ((Ho_pg_swp.trans (Ho_pg_sws.trans (Ho_pg_swc.trans Ho_pg_spg))).trans Ho_pg_spg.symm)

