section SITES
variable {p : Program} {l : Launch} {e : Env} {R : Room} {s : State} {m : MethodId} {args : Array Value} {below : List Frame} {meth : Method} {c : Code} {H : Heap} {locs : List Loc} {cells slots : Nat} {Q : State → Prop}
variable {pc : Nat} {ls : Array Slot} {rest : List Value} {D : va_G} {ar : Nat → ClassId} {κ : Nat → Nat} {A : Nat → Prop} {a : Nat} {H0 : Heap} {G : gW} {nz nL : Nat} {cc : ByteArray}
theorem Ho_ab_swp {v9 : Ho} {y9 : Int64} : (v9.swp y9).ab = v9.ab := rfl
theorem Ho_ab_sws {v9 : Ho} {y9 : Int64} : (v9.sws y9).ab = v9.ab := rfl
theorem Ho_ab_swc {v9 : Ho} {y9 : Int32} : (v9.swc y9).ab = v9.ab := rfl
theorem Ho_ab_spg {v9 : Ho} {y9 : Nat → Nat → Int64} : (v9.spg y9).ab = v9.ab := rfl
theorem Ho_ab_snp {v9 : Ho} {y9 : Nat} : (v9.snp y9).ab = v9.ab := rfl
theorem Ho_fc_swp {v9 : Ho} {y9 : Int64} : (v9.swp y9).fc = v9.fc := rfl
theorem Ho_fc_sws {v9 : Ho} {y9 : Int64} : (v9.sws y9).fc = v9.fc := rfl
theorem Ho_fc_swc {v9 : Ho} {y9 : Int32} : (v9.swc y9).fc = v9.fc := rfl
theorem Ho_fc_spg {v9 : Ho} {y9 : Nat → Nat → Int64} : (v9.spg y9).fc = v9.fc := rfl
theorem Ho_fc_snp {v9 : Ho} {y9 : Nat} : (v9.snp y9).fc = v9.fc := rfl
theorem Ho_cn_swp {v9 : Ho} {y9 : Int64} : (v9.swp y9).cn = v9.cn := rfl
theorem Ho_cn_sws {v9 : Ho} {y9 : Int64} : (v9.sws y9).cn = v9.cn := rfl
theorem Ho_cn_swc {v9 : Ho} {y9 : Int32} : (v9.swc y9).cn = v9.cn := rfl
theorem Ho_cn_spg {v9 : Ho} {y9 : Nat → Nat → Int64} : (v9.spg y9).cn = v9.cn := rfl
theorem Ho_cn_snp {v9 : Ho} {y9 : Nat} : (v9.snp y9).cn = v9.cn := rfl
theorem Ho_me_swp {v9 : Ho} {y9 : Int64} : (v9.swp y9).me = v9.me := rfl
theorem Ho_me_sws {v9 : Ho} {y9 : Int64} : (v9.sws y9).me = v9.me := rfl
theorem Ho_me_swc {v9 : Ho} {y9 : Int32} : (v9.swc y9).me = v9.me := rfl
theorem Ho_me_spg {v9 : Ho} {y9 : Nat → Nat → Int64} : (v9.spg y9).me = v9.me := rfl
theorem Ho_me_snp {v9 : Ho} {y9 : Nat} : (v9.snp y9).me = v9.me := rfl
theorem Ho_nt_swp {v9 : Ho} {y9 : Int64} : (v9.swp y9).nt = v9.nt := rfl
theorem Ho_nt_sws {v9 : Ho} {y9 : Int64} : (v9.sws y9).nt = v9.nt := rfl
theorem Ho_nt_swc {v9 : Ho} {y9 : Int32} : (v9.swc y9).nt = v9.nt := rfl
theorem Ho_nt_spg {v9 : Ho} {y9 : Nat → Nat → Int64} : (v9.spg y9).nt = v9.nt := rfl
theorem Ho_nt_snp {v9 : Ho} {y9 : Nat} : (v9.snp y9).nt = v9.nt := rfl
theorem Ho_nr_swp {v9 : Ho} {y9 : Int64} : (v9.swp y9).nr = v9.nr := rfl
theorem Ho_nr_sws {v9 : Ho} {y9 : Int64} : (v9.sws y9).nr = v9.nr := rfl
theorem Ho_nr_swc {v9 : Ho} {y9 : Int32} : (v9.swc y9).nr = v9.nr := rfl
theorem Ho_nr_spg {v9 : Ho} {y9 : Nat → Nat → Int64} : (v9.spg y9).nr = v9.nr := rfl
theorem Ho_nr_snp {v9 : Ho} {y9 : Nat} : (v9.snp y9).nr = v9.nr := rfl
theorem Ho_ty_swp {v9 : Ho} {y9 : Int64} : (v9.swp y9).ty = v9.ty := rfl
theorem Ho_ty_sws {v9 : Ho} {y9 : Int64} : (v9.sws y9).ty = v9.ty := rfl
theorem Ho_ty_swc {v9 : Ho} {y9 : Int32} : (v9.swc y9).ty = v9.ty := rfl
theorem Ho_ty_spg {v9 : Ho} {y9 : Nat → Nat → Int64} : (v9.spg y9).ty = v9.ty := rfl
theorem Ho_ty_snp {v9 : Ho} {y9 : Nat} : (v9.snp y9).ty = v9.ty := rfl
theorem Ho_to_swp {v9 : Ho} {y9 : Int64} : (v9.swp y9).to = v9.to := rfl
theorem Ho_to_sws {v9 : Ho} {y9 : Int64} : (v9.sws y9).to = v9.to := rfl
theorem Ho_to_swc {v9 : Ho} {y9 : Int32} : (v9.swc y9).to = v9.to := rfl
theorem Ho_to_spg {v9 : Ho} {y9 : Nat → Nat → Int64} : (v9.spg y9).to = v9.to := rfl
theorem Ho_to_snp {v9 : Ho} {y9 : Nat} : (v9.snp y9).to = v9.to := rfl
theorem Ho_ro_swp {v9 : Ho} {y9 : Int64} : (v9.swp y9).ro = v9.ro := rfl
theorem Ho_ro_sws {v9 : Ho} {y9 : Int64} : (v9.sws y9).ro = v9.ro := rfl
theorem Ho_ro_swc {v9 : Ho} {y9 : Int32} : (v9.swc y9).ro = v9.ro := rfl
theorem Ho_ro_spg {v9 : Ho} {y9 : Nat → Nat → Int64} : (v9.spg y9).ro = v9.ro := rfl
theorem Ho_ro_snp {v9 : Ho} {y9 : Nat} : (v9.snp y9).ro = v9.ro := rfl
theorem Ho_gl_swp {v9 : Ho} {y9 : Int64} : (v9.swp y9).gl = v9.gl := rfl
theorem Ho_gl_sws {v9 : Ho} {y9 : Int64} : (v9.sws y9).gl = v9.gl := rfl
theorem Ho_gl_swc {v9 : Ho} {y9 : Int32} : (v9.swc y9).gl = v9.gl := rfl
theorem Ho_gl_spg {v9 : Ho} {y9 : Nat → Nat → Int64} : (v9.spg y9).gl = v9.gl := rfl
theorem Ho_gl_snp {v9 : Ho} {y9 : Nat} : (v9.snp y9).gl = v9.gl := rfl
theorem Ho_al_swp {v9 : Ho} {y9 : Int64} : (v9.swp y9).al = v9.al := rfl
theorem Ho_al_sws {v9 : Ho} {y9 : Int64} : (v9.sws y9).al = v9.al := rfl
theorem Ho_al_swc {v9 : Ho} {y9 : Int32} : (v9.swc y9).al = v9.al := rfl
theorem Ho_al_spg {v9 : Ho} {y9 : Nat → Nat → Int64} : (v9.spg y9).al = v9.al := rfl
theorem Ho_al_snp {v9 : Ho} {y9 : Nat} : (v9.snp y9).al = v9.al := rfl
theorem Ho_re_swp {v9 : Ho} {y9 : Int64} : (v9.swp y9).re = v9.re := rfl
theorem Ho_re_sws {v9 : Ho} {y9 : Int64} : (v9.sws y9).re = v9.re := rfl
theorem Ho_re_swc {v9 : Ho} {y9 : Int32} : (v9.swc y9).re = v9.re := rfl
theorem Ho_re_spg {v9 : Ho} {y9 : Nat → Nat → Int64} : (v9.spg y9).re = v9.re := rfl
theorem Ho_re_snp {v9 : Ho} {y9 : Nat} : (v9.snp y9).re = v9.re := rfl
theorem Ho_th_swp {v9 : Ho} {y9 : Int64} : (v9.swp y9).th = v9.th := rfl
theorem Ho_th_sws {v9 : Ho} {y9 : Int64} : (v9.sws y9).th = v9.th := rfl
theorem Ho_th_swc {v9 : Ho} {y9 : Int32} : (v9.swc y9).th = v9.th := rfl
theorem Ho_th_spg {v9 : Ho} {y9 : Nat → Nat → Int64} : (v9.spg y9).th = v9.th := rfl
theorem Ho_th_snp {v9 : Ho} {y9 : Nat} : (v9.snp y9).th = v9.th := rfl
theorem Ho_tc_swp {v9 : Ho} {y9 : Int64} : (v9.swp y9).tc = v9.tc := rfl
theorem Ho_tc_sws {v9 : Ho} {y9 : Int64} : (v9.sws y9).tc = v9.tc := rfl
theorem Ho_tc_swc {v9 : Ho} {y9 : Int32} : (v9.swc y9).tc = v9.tc := rfl
theorem Ho_tc_spg {v9 : Ho} {y9 : Nat → Nat → Int64} : (v9.spg y9).tc = v9.tc := rfl
theorem Ho_tc_snp {v9 : Ho} {y9 : Nat} : (v9.snp y9).tc = v9.tc := rfl
theorem Ho_rc_swp {v9 : Ho} {y9 : Int64} : (v9.swp y9).rc = v9.rc := rfl
theorem Ho_rc_sws {v9 : Ho} {y9 : Int64} : (v9.sws y9).rc = v9.rc := rfl
theorem Ho_rc_swc {v9 : Ho} {y9 : Int32} : (v9.swc y9).rc = v9.rc := rfl
theorem Ho_rc_spg {v9 : Ho} {y9 : Nat → Nat → Int64} : (v9.spg y9).rc = v9.rc := rfl
theorem Ho_rc_snp {v9 : Ho} {y9 : Nat} : (v9.snp y9).rc = v9.rc := rfl
theorem Ho_mk_swp {v9 : Ho} {y9 : Int64} : (v9.swp y9).mk = v9.mk := rfl
theorem Ho_mk_sws {v9 : Ho} {y9 : Int64} : (v9.sws y9).mk = v9.mk := rfl
theorem Ho_mk_swc {v9 : Ho} {y9 : Int32} : (v9.swc y9).mk = v9.mk := rfl
theorem Ho_mk_spg {v9 : Ho} {y9 : Nat → Nat → Int64} : (v9.spg y9).mk = v9.mk := rfl
theorem Ho_mk_snp {v9 : Ho} {y9 : Nat} : (v9.snp y9).mk = v9.mk := rfl
theorem Ho_fr_swp {v9 : Ho} {y9 : Int64} : (v9.swp y9).fr = v9.fr := rfl
theorem Ho_fr_sws {v9 : Ho} {y9 : Int64} : (v9.sws y9).fr = v9.fr := rfl
theorem Ho_fr_swc {v9 : Ho} {y9 : Int32} : (v9.swc y9).fr = v9.fr := rfl
theorem Ho_fr_spg {v9 : Ho} {y9 : Nat → Nat → Int64} : (v9.spg y9).fr = v9.fr := rfl
theorem Ho_fr_snp {v9 : Ho} {y9 : Nat} : (v9.snp y9).fr = v9.fr := rfl
theorem Ho_fn_swp {v9 : Ho} {y9 : Int64} : (v9.swp y9).fn = v9.fn := rfl
theorem Ho_fn_sws {v9 : Ho} {y9 : Int64} : (v9.sws y9).fn = v9.fn := rfl
theorem Ho_fn_swc {v9 : Ho} {y9 : Int32} : (v9.swc y9).fn = v9.fn := rfl
theorem Ho_fn_spg {v9 : Ho} {y9 : Nat → Nat → Int64} : (v9.spg y9).fn = v9.fn := rfl
theorem Ho_fn_snp {v9 : Ho} {y9 : Nat} : (v9.snp y9).fn = v9.fn := rfl
theorem Ho_st_swp {v9 : Ho} {y9 : Int64} : (v9.swp y9).st = v9.st := rfl
theorem Ho_st_sws {v9 : Ho} {y9 : Int64} : (v9.sws y9).st = v9.st := rfl
theorem Ho_st_swc {v9 : Ho} {y9 : Int32} : (v9.swc y9).st = v9.st := rfl
theorem Ho_st_spg {v9 : Ho} {y9 : Nat → Nat → Int64} : (v9.spg y9).st = v9.st := rfl
theorem Ho_st_snp {v9 : Ho} {y9 : Nat} : (v9.snp y9).st = v9.st := rfl
theorem Ho_rs_swp {v9 : Ho} {y9 : Int64} : (v9.swp y9).rs = v9.rs := rfl
theorem Ho_rs_sws {v9 : Ho} {y9 : Int64} : (v9.sws y9).rs = v9.rs := rfl
theorem Ho_rs_swc {v9 : Ho} {y9 : Int32} : (v9.swc y9).rs = v9.rs := rfl
theorem Ho_rs_spg {v9 : Ho} {y9 : Nat → Nat → Int64} : (v9.spg y9).rs = v9.rs := rfl
theorem Ho_rs_snp {v9 : Ho} {y9 : Nat} : (v9.snp y9).rs = v9.rs := rfl
theorem Ho_an_swp {v9 : Ho} {y9 : Int64} : (v9.swp y9).an = v9.an := rfl
theorem Ho_an_sws {v9 : Ho} {y9 : Int64} : (v9.sws y9).an = v9.an := rfl
theorem Ho_an_swc {v9 : Ho} {y9 : Int32} : (v9.swc y9).an = v9.an := rfl
theorem Ho_an_spg {v9 : Ho} {y9 : Nat → Nat → Int64} : (v9.spg y9).an = v9.an := rfl
theorem Ho_an_snp {v9 : Ho} {y9 : Nat} : (v9.snp y9).an = v9.an := rfl
theorem Ho_sp_swp {v9 : Ho} {y9 : Int64} : (v9.swp y9).sp = v9.sp := rfl
theorem Ho_sp_sws {v9 : Ho} {y9 : Int64} : (v9.sws y9).sp = v9.sp := rfl
theorem Ho_sp_swc {v9 : Ho} {y9 : Int32} : (v9.swc y9).sp = v9.sp := rfl
theorem Ho_sp_spg {v9 : Ho} {y9 : Nat → Nat → Int64} : (v9.spg y9).sp = v9.sp := rfl
theorem Ho_sp_snp {v9 : Ho} {y9 : Nat} : (v9.snp y9).sp = v9.sp := rfl
theorem Ho_np_swp {v9 : Ho} {y9 : Int64} : (v9.swp y9).np = v9.np := rfl
theorem Ho_np_sws {v9 : Ho} {y9 : Int64} : (v9.sws y9).np = v9.np := rfl
theorem Ho_np_swc {v9 : Ho} {y9 : Int32} : (v9.swc y9).np = v9.np := rfl
theorem Ho_np_spg {v9 : Ho} {y9 : Nat → Nat → Int64} : (v9.spg y9).np = v9.np := rfl
theorem Ho_np_snp {v9 : Ho} {y9 : Nat} : (v9.snp y9).np = y9 := rfl
theorem Ho_pg_swp {v9 : Ho} {y9 : Int64} : (v9.swp y9).pg = v9.pg := rfl
theorem Ho_pg_sws {v9 : Ho} {y9 : Int64} : (v9.sws y9).pg = v9.pg := rfl
theorem Ho_pg_swc {v9 : Ho} {y9 : Int32} : (v9.swc y9).pg = v9.pg := rfl
theorem Ho_pg_spg {v9 : Ho} {y9 : Nat → Nat → Int64} : (v9.spg y9).pg = y9 := rfl
theorem Ho_wc_swp {v9 : Ho} {y9 : Int64} : (v9.swp y9).wc = v9.wc := rfl
theorem Ho_wc_sws {v9 : Ho} {y9 : Int64} : (v9.sws y9).wc = v9.wc := rfl
theorem Ho_wc_swc {v9 : Ho} {y9 : Int32} : (v9.swc y9).wc = y9 := rfl
theorem Ho_ws_swp {v9 : Ho} {y9 : Int64} : (v9.swp y9).ws = v9.ws := rfl
theorem Ho_ws_sws {v9 : Ho} {y9 : Int64} : (v9.sws y9).ws = y9 := rfl
theorem Ho_wp_swp {v9 : Ho} {y9 : Int64} : (v9.swp y9).wp = y9 := rfl
theorem Ho_wc_spg {v9 : Ho} {y9 : Nat → Nat → Int64} : (v9.spg y9).wc = v9.wc := rfl
theorem Ho_ws_spg {v9 : Ho} {y9 : Nat → Nat → Int64} : (v9.spg y9).ws = v9.ws := rfl
theorem Ho_wp_spg {v9 : Ho} {y9 : Nat → Nat → Int64} : (v9.spg y9).wp = v9.wp := rfl
end SITES
/-! what is written: a page more, or not -/
theorem met_w {l : Launch} {y : MethodName} {ws : List Cond} {rm : Room} {D : va_G} {cl : List vw_C} {tys : List (ClassId × FieldType)} {EX : (Nat → Prop) → State → Heap → Prop} {G : gW} {sz : Nat} {av : List Value} {A : Nat → Prop} {mc ms : Nat} {fr : Addr → Prop} {post post2 : gW × Nat → Prop}
    (hM : Met l y ws rm (g_Pc D cl tys EX G sz av) (g_Qv D cl A post) mc ms fr) (h : (∀ q, sz ≤ q → G q = none) → ∀ u, post u → post2 u) : Met l y ws rm (g_Pc D cl tys EX G sz av) (g_Qv D cl A post2) mc ms fr :=
  Jvm.Free.MetFree.mono hM (fun _ _ h9 => h9) (fun _ _ _ _ _ h9 => h9) (fun a s o t hP q => by
    obtain ⟨⟨⟨u, h1, h2, h3⟩, h4⟩, h5⟩ := q
    refine ⟨⟨⟨u, h1, h (fun q9 hq => ?_) u h2, h3⟩, h4⟩, h5⟩
    cases hG : G q9 with
    | none => rfl
    | some e9 =>
      have h6 := g_lt hP.2.2.1 hG
      have h7 : s.heap.size = sz := hP.2.1
      omega)
theorem wk_div {n : Nat} (h : n < 2 ^ 31) : nI n / 512 = nI (n / 512) := by
  apply Int32.toInt_inj.mp
  rw [Int32.toInt_div_of_ne_right _ _ (by decide), nI_toInt h, nI_toInt (by omega), show (512 : Int32).toInt = 512 from by decide, Int.tdiv_eq_ediv_of_nonneg (by omega)]
  omega
def pix (Z : Ho) : Int32 := Z.wc - Z.wc / 512 * 512
def sX7_enlist (Z : Ho) (v : Int64) : Ho := if Z.np ≤ (Z.wc / 512).toNatClampNeg then (((((Z.snp (Z.np + 1)).spg (updN Z.pg Z.np (pU (fun _ => 0) 512 (pix Z) v))).swc (Z.wc + 1)).sws (pV Z.ws v)).swp ((Z.wp * 31) * 31))
  else ((((Z.spg (updN Z.pg (Z.wc / 512).toNatClampNeg (pU (Z.pg (Z.wc / 512).toNatClampNeg) 512 (pix Z) v))).swc (Z.wc + 1)).sws (pV Z.ws v)).swp ((Z.wp * 31) * 31))
def zPg (x : Xo) (k a e : Nat) : Zo := mkZ (fun q => if q = a then some (.pg k) else if q = a + 1 then some (.pv k) else if q = e then some .el else x.b q) x.cm x.ec (x.mc + 1) e (updN x.pp k a) (updN x.pq k (a + 1))
section PGS
variable {κ : Nat → Nat} {ar : Nat → ClassId} {x : Xo} {S : Ho} {G : gW} {a e k : Nat} {c : va_E} {t : Tg} {q : Nat}
theorem ov_s (h : x.b q = some t) : ov κ ar x S G q = some (cellH κ ar x S t) := by
  unfold ov
  rw [h]
theorem ov_0 (h : x.b q = none) : ov κ ar x S G q = G q := by
  unfold ov
  rw [h]
theorem ov_wpv {f : Nat → Int64} (hv : ∀ a t, x.b a = some t → x.a t = a) (h : x.b (x.a (.pv k)) = some (.pv k)) (hc : c = .inl (ar 1, 512, .inr (.inl f))) : g_up (ov κ ar x S G) (x.pq k) c = ov κ ar x (S.spg (updN S.pg k f)) G := by
  refine ov_w (t := .pv k) (x' := x) hv h rfl ?_ (fun t' q => ?_)
  · rw [hc]
    show _ = (.inl (ar 1, 512, .inr (.inl (updN S.pg k f k))) : va_E)
    rw [updN_s]
  rcases t' with j | j | j | j | j | j
  · rfl
  · rfl
  · rfl
  · rfl
  · rfl
  · rcases j with j | j
    · rfl
    · by_cases hj : j = k
      · subst hj
        exact absurd rfl q
      · show (.inl (ar 1, 512, .inr (.inl (updN S.pg k f j))) : va_E) = .inl (ar 1, 512, .inr (.inl (S.pg j)))
        rw [updN_o hj]
theorem up_page {P : Nat → Nat} {F : Nat → Option Nat} (hF : ∀ j, F j = if j < k then some (P j) else none) : va_up F k (some a) = fun j9 => if j9 < k + 1 then some (updN P k a j9) else none := by
  funext j
  by_cases h : j = k
  · subst h
    show va_up F j (some a) j = if j < j + 1 then some (updN P j a j) else none
    rw [updN_s, if_pos (Nat.lt_succ_self _)]
    exact if_pos rfl
  · show va_up F k (some a) j = if j < k + 1 then some (updN P k a j) else none
    rw [updN_o h]
    refine (if_neg h).trans ((hF j).trans ?_)
    by_cases h2 : j < k
    · rw [if_pos h2, if_pos (by omega)]
    · rw [if_neg h2, if_neg (by omega)]
theorem zPg_old (h0 : x.b a = none) (h1 : x.b (a + 1) = none) (he : x.b e = some .el ∨ x.b e = none) : ∀ q t, x.b q = some t → t ≠ .el → (x.pgs (zPg x k a e)).b q = some t := by
  intro q t z zt
  show (if q = a then some (.pg k) else if q = a + 1 then some (.pv k) else if q = e then some .el else x.b q) = some t
  rw [if_neg (fun y => by rw [y, h0] at z; cases z), if_neg (fun y => by rw [y, h1] at z; cases z), if_neg (fun y => by
    rw [y] at z
    rcases he with w | w
    · rw [w] at z; cases z; exact zt rfl
    · rw [w] at z; cases z)]
  exact z

set_option maxHeartbeats 8000000 in
theorem ov_page {T : Ho} {f : Nat → Int64} {wc : Int32} {ws wp : Int64} (h : OK x S) (hk : S.np = k) (h0 : x.b a = none) (h1 : x.b (a + 1) = none) (ha : e ≠ a) (ha1 : e ≠ a + 1) (hel : ∀ q, x.b q = some .el → q = e) (he : x.b e = some .el ∨ x.b e = none) (h_ab : T.ab = S.ab) (h_fc : T.fc = S.fc) (h_cn : T.cn = S.cn) (h_me : T.me = S.me) (h_nt : T.nt = S.nt) (h_nr : T.nr = S.nr) (h_ty : T.ty = S.ty) (h_to : T.to = S.to) (h_ro : T.ro = S.ro) (h_gl : T.gl = S.gl) (h_al : T.al = S.al) (h_re : T.re = S.re) (h_th : T.th = S.th) (h_tc : T.tc = S.tc) (h_rc : T.rc = S.rc) (h_mk : T.mk = S.mk) (h_fr : T.fr = S.fr) (h_fn : T.fn = S.fn) (h_st : T.st = S.st) (h_rs : T.rs = S.rs) (h_an : T.an = S.an) (h_sp : T.sp = S.sp) (h_np : T.np = k + 1) (h_pg : T.pg = updN S.pg k f) (h_wc : T.wc = wc) (h_ws : T.ws = ws) (h_wp : T.wp = wp) :
    g_up (g_up (g_up (g_up (g_up (ov κ ar x S G) a (.inr (8, [.ref (a + 1)]))) (a + 1) (.inl (ar 1, 512, .inr (.inl f)))) (x.f .pl) (.inr (5, [.int (x.mc + 1), .ref e, .int (Int32.ofNat (k + 1))]))) e (.inl (ar 8, 10, .inr (.inr (.inr (.inr (fun j9 => if j9 < k + 1 then some (updN x.pp k a j9) else none))))))) (x.f .wr) (.inr (13, [.ref (x.f .pl), .int wc, .long ws, .long wp])) = ov κ ar (x.pgs (zPg x k a e)) T G := by
  sorry
set_option maxHeartbeats 8000000 in
theorem OK.page {T : Ho} (h : OK x S) (hk : S.np = k) (h0 : x.b a = none) (h1 : x.b (a + 1) = none) (ha : e ≠ a) (ha1 : e ≠ a + 1) (hel : ∀ q, x.b q = some .el → q = e) (he : x.b e = some .el ∨ x.b e = none) (h_nt : T.nt = S.nt) (h_nr : T.nr = S.nr) (h_np : T.np = k + 1) (h_ty : T.ty = S.ty) (h_me : T.me = S.me) (h_fr : T.fr = S.fr) (h_to : T.to = S.to) : OK (x.pgs (zPg x k a e)) T := by
  sorry
theorem BX_page {sz : Nat} (ha : sz ≤ a) (hx : x.b e = some .el ∨ sz ≤ e) : BX x (zPg x k a e) sz := by
  intro q t hq
  have hB : (zPg x k a e).b q = if q = a then some (.pg k) else if q = a + 1 then some (.pv k) else if q = e then some .el else x.b q := rfl
  rw [hB] at hq
  by_cases qa : q = a
  · exact Or.inr (by omega)
  rw [if_neg qa] at hq
  by_cases qb : q = a + 1
  · exact Or.inr (by omega)
  rw [if_neg qb] at hq
  by_cases qe : q = e
  · rw [if_pos qe] at hq
    cases hq
    rcases hx with y | y
    · exact Or.inl (by rw [qe]; exact y)
    · exact Or.inr (by omega)
  rw [if_neg qe] at hq
  exact Or.inl hq
end PGS
theorem hX7_enlist (l : Launch) (D : va_G) (ar : Nat → ClassId) (κ : Nat → Nat) (G : gW) (x : Xo) (Z : Ho) (sz : Nat) (v0 : Int64) (hk : OK x Z) (hw : Wk Z) : Met l yX7_enlist (lwC yX7_enlist cX7_enlist 5 none) (rD 5 (3 * ((sX7_enlist Z v0).np - Z.np)) (523 * ((sX7_enlist Z v0).np - Z.np))) (g_Pc D vwCl (gT ar) (EX1 κ) (ov κ ar x Z G) sz [.ref (x.f .wr), .long v0]) (g_Qv D vwCl (g_A (ov κ ar x Z G) sz) (fun u => ∃ z9 : Zo, ∃ T9 : Ho, sX7_enlist Z v0 = T9 ∧ u.1 = ov κ ar (x.pgs z9) T9 G ∧ OK (x.pgs z9) T9 ∧ BX x z9 sz ∧ SZW T9 Z)) (3 * ((sX7_enlist Z v0).np - Z.np)) (523 * ((sX7_enlist Z v0).np - Z.np)) (g_A (ov κ ar x Z G) sz) := by
  sorry
