/-! a house's state, in plain values; where each of its cells lies; the world that holds it -/
abbrev Ro : Type := ((((Nat → Int32) × (Nat → Int32)) × ((Nat → Int32) × (Nat → Int32))) × (((Nat → Int32) × (Int32)) × (Int32)))
def Ro.l (v : Ro) : Nat → Int32 := v.1.1.1
def Ro.f (v : Ro) : Nat → Int32 := v.1.1.2
def Ro.g (v : Ro) : Nat → Int32 := v.1.2.1
def Ro.d (v : Ro) : Nat → Int32 := v.1.2.2
def Ro.q (v : Ro) : Nat → Int32 := v.2.1.1
def Ro.n (v : Ro) : Int32 := v.2.1.2
def Ro.k (v : Ro) : Int32 := v.2.2
def Ro.sl (v : Ro) (y : Nat → Int32) : Ro := (((y, v.f), (v.g, v.d)), ((v.q, v.n), v.k))
def Ro.sf (v : Ro) (y : Nat → Int32) : Ro := (((v.l, y), (v.g, v.d)), ((v.q, v.n), v.k))
def Ro.sg (v : Ro) (y : Nat → Int32) : Ro := (((v.l, v.f), (y, v.d)), ((v.q, v.n), v.k))
def Ro.sd (v : Ro) (y : Nat → Int32) : Ro := (((v.l, v.f), (v.g, y)), ((v.q, v.n), v.k))
def Ro.sq (v : Ro) (y : Nat → Int32) : Ro := (((v.l, v.f), (v.g, v.d)), ((y, v.n), v.k))
def Ro.sn (v : Ro) (y : Int32) : Ro := (((v.l, v.f), (v.g, v.d)), ((v.q, y), v.k))
def Ro.sk (v : Ro) (y : Int32) : Ro := (((v.l, v.f), (v.g, v.d)), ((v.q, v.n), y))
abbrev To : Type := ((((Int32) × (Int32)) × (Int32)) × (((Int32) × (Int32)) × (Nat)))
def To.c (v : To) : Int32 := v.1.1.1
def To.s (v : To) : Int32 := v.1.1.2
def To.a (v : To) : Int32 := v.1.2
def To.t (v : To) : Int32 := v.2.1.1
def To.n (v : To) : Int32 := v.2.1.2
def To.q (v : To) : Nat := v.2.2
def To.sc (v : To) (y : Int32) : To := (((y, v.s), v.a), ((v.t, v.n), v.q))
def To.ss (v : To) (y : Int32) : To := (((v.c, y), v.a), ((v.t, v.n), v.q))
def To.sa (v : To) (y : Int32) : To := (((v.c, v.s), y), ((v.t, v.n), v.q))
def To.st (v : To) (y : Int32) : To := (((v.c, v.s), v.a), ((y, v.n), v.q))
def To.sn (v : To) (y : Int32) : To := (((v.c, v.s), v.a), ((v.t, y), v.q))
def To.sq (v : To) (y : Nat) : To := (((v.c, v.s), v.a), ((v.t, v.n), y))
abbrev Th : Type := ((((Nat → Int64) × (Int32)) × (Int32)) × ((Int32) × (Int32)))
def Th.p (v : Th) : Nat → Int64 := v.1.1.1
def Th.n (v : Th) : Int32 := v.1.1.2
def Th.c (v : Th) : Int32 := v.1.2
def Th.z (v : Th) : Int32 := v.2.1
def Th.r (v : Th) : Int32 := v.2.2
def Th.sp (v : Th) (y : Nat → Int64) : Th := (((y, v.n), v.c), (v.z, v.r))
def Th.sn (v : Th) (y : Int32) : Th := (((v.p, y), v.c), (v.z, v.r))
def Th.sc (v : Th) (y : Int32) : Th := (((v.p, v.n), y), (v.z, v.r))
def Th.sz (v : Th) (y : Int32) : Th := (((v.p, v.n), v.c), (y, v.r))
def Th.sr (v : Th) (y : Int32) : Th := (((v.p, v.n), v.c), (v.z, y))
abbrev Fr : Type := ((((Nat → Int64) × (Nat → Int64)) × ((Nat → Int64) × (Option Nat))) × (((Int64) × (Int32)) × (Int32)))
def Fr.a (v : Fr) : Nat → Int64 := v.1.1.1
def Fr.t (v : Fr) : Nat → Int64 := v.1.1.2
def Fr.p (v : Fr) : Nat → Int64 := v.1.2.1
def Fr.o (v : Fr) : Option Nat := v.1.2.2
def Fr.v (v : Fr) : Int64 := v.2.1.1
def Fr.w (v : Fr) : Int32 := v.2.1.2
def Fr.d (v : Fr) : Int32 := v.2.2
def Fr.sa (v : Fr) (y : Nat → Int64) : Fr := (((y, v.t), (v.p, v.o)), ((v.v, v.w), v.d))
def Fr.st (v : Fr) (y : Nat → Int64) : Fr := (((v.a, y), (v.p, v.o)), ((v.v, v.w), v.d))
def Fr.sp (v : Fr) (y : Nat → Int64) : Fr := (((v.a, v.t), (y, v.o)), ((v.v, v.w), v.d))
def Fr.so (v : Fr) (y : Option Nat) : Fr := (((v.a, v.t), (v.p, y)), ((v.v, v.w), v.d))
def Fr.sv (v : Fr) (y : Int64) : Fr := (((v.a, v.t), (v.p, v.o)), ((y, v.w), v.d))
def Fr.sw (v : Fr) (y : Int32) : Fr := (((v.a, v.t), (v.p, v.o)), ((v.v, y), v.d))
def Fr.sd (v : Fr) (y : Int32) : Fr := (((v.a, v.t), (v.p, v.o)), ((v.v, v.w), y))
abbrev Ho : Type := ((((((Nat → Int32) × (Nat → Int32)) × ((Int32) × (Nat → Option Nat))) × (((Nat) × (Nat)) × (Nat))) × ((((Nat → To) × (Nat → Ro)) × ((Nat → Int64) × (Nat → Option (Fin 60)))) × (((Nat → Option (Fin 60)) × (Fin 60 → Th)) × (Int32)))) × (((((Int32) × (Int32)) × ((Fin 12 → Fr) × (Int32))) × (((Int32) × (Int32)) × (Int64))) × ((((Int32) × (Nat)) × (Nat → Nat → Int64)) × (((Int32) × (Int64)) × (Int64)))))
def Ho.ab (v : Ho) : Nat → Int32 := v.1.1.1.1.1
def Ho.fc (v : Ho) : Nat → Int32 := v.1.1.1.1.2
def Ho.cn (v : Ho) : Int32 := v.1.1.1.2.1
def Ho.me (v : Ho) : Nat → Option Nat := v.1.1.1.2.2
def Ho.nt (v : Ho) : Nat := v.1.1.2.1.1
def Ho.nr (v : Ho) : Nat := v.1.1.2.1.2
def Ho.ty (v : Ho) : Nat := v.1.1.2.2
def Ho.to (v : Ho) : Nat → To := v.1.2.1.1.1
def Ho.ro (v : Ho) : Nat → Ro := v.1.2.1.1.2
def Ho.gl (v : Ho) : Nat → Int64 := v.1.2.1.2.1
def Ho.al (v : Ho) : Nat → Option (Fin 60) := v.1.2.1.2.2
def Ho.re (v : Ho) : Nat → Option (Fin 60) := v.1.2.2.1.1
def Ho.th (v : Ho) : Fin 60 → Th := v.1.2.2.1.2
def Ho.tc (v : Ho) : Int32 := v.1.2.2.2
def Ho.rc (v : Ho) : Int32 := v.2.1.1.1.1
def Ho.mk (v : Ho) : Int32 := v.2.1.1.1.2
def Ho.fr (v : Ho) : Fin 12 → Fr := v.2.1.1.2.1
def Ho.fn (v : Ho) : Int32 := v.2.1.1.2.2
def Ho.st (v : Ho) : Int32 := v.2.1.2.1.1
def Ho.rs (v : Ho) : Int32 := v.2.1.2.1.2
def Ho.an (v : Ho) : Int64 := v.2.1.2.2
def Ho.sp (v : Ho) : Int32 := v.2.2.1.1.1
def Ho.np (v : Ho) : Nat := v.2.2.1.1.2
def Ho.pg (v : Ho) : Nat → Nat → Int64 := v.2.2.1.2
def Ho.wc (v : Ho) : Int32 := v.2.2.2.1.1
def Ho.ws (v : Ho) : Int64 := v.2.2.2.1.2
def Ho.wp (v : Ho) : Int64 := v.2.2.2.2
def Ho.sab (v : Ho) (y : Nat → Int32) : Ho := (((((y, v.fc), (v.cn, v.me)), ((v.nt, v.nr), v.ty)), (((v.to, v.ro), (v.gl, v.al)), ((v.re, v.th), v.tc))), ((((v.rc, v.mk), (v.fr, v.fn)), ((v.st, v.rs), v.an)), (((v.sp, v.np), v.pg), ((v.wc, v.ws), v.wp))))
def Ho.sfc (v : Ho) (y : Nat → Int32) : Ho := (((((v.ab, y), (v.cn, v.me)), ((v.nt, v.nr), v.ty)), (((v.to, v.ro), (v.gl, v.al)), ((v.re, v.th), v.tc))), ((((v.rc, v.mk), (v.fr, v.fn)), ((v.st, v.rs), v.an)), (((v.sp, v.np), v.pg), ((v.wc, v.ws), v.wp))))
def Ho.scn (v : Ho) (y : Int32) : Ho := (((((v.ab, v.fc), (y, v.me)), ((v.nt, v.nr), v.ty)), (((v.to, v.ro), (v.gl, v.al)), ((v.re, v.th), v.tc))), ((((v.rc, v.mk), (v.fr, v.fn)), ((v.st, v.rs), v.an)), (((v.sp, v.np), v.pg), ((v.wc, v.ws), v.wp))))
def Ho.sme (v : Ho) (y : Nat → Option Nat) : Ho := (((((v.ab, v.fc), (v.cn, y)), ((v.nt, v.nr), v.ty)), (((v.to, v.ro), (v.gl, v.al)), ((v.re, v.th), v.tc))), ((((v.rc, v.mk), (v.fr, v.fn)), ((v.st, v.rs), v.an)), (((v.sp, v.np), v.pg), ((v.wc, v.ws), v.wp))))
def Ho.snt (v : Ho) (y : Nat) : Ho := (((((v.ab, v.fc), (v.cn, v.me)), ((y, v.nr), v.ty)), (((v.to, v.ro), (v.gl, v.al)), ((v.re, v.th), v.tc))), ((((v.rc, v.mk), (v.fr, v.fn)), ((v.st, v.rs), v.an)), (((v.sp, v.np), v.pg), ((v.wc, v.ws), v.wp))))
def Ho.snr (v : Ho) (y : Nat) : Ho := (((((v.ab, v.fc), (v.cn, v.me)), ((v.nt, y), v.ty)), (((v.to, v.ro), (v.gl, v.al)), ((v.re, v.th), v.tc))), ((((v.rc, v.mk), (v.fr, v.fn)), ((v.st, v.rs), v.an)), (((v.sp, v.np), v.pg), ((v.wc, v.ws), v.wp))))
def Ho.sty (v : Ho) (y : Nat) : Ho := (((((v.ab, v.fc), (v.cn, v.me)), ((v.nt, v.nr), y)), (((v.to, v.ro), (v.gl, v.al)), ((v.re, v.th), v.tc))), ((((v.rc, v.mk), (v.fr, v.fn)), ((v.st, v.rs), v.an)), (((v.sp, v.np), v.pg), ((v.wc, v.ws), v.wp))))
def Ho.sto (v : Ho) (y : Nat → To) : Ho := (((((v.ab, v.fc), (v.cn, v.me)), ((v.nt, v.nr), v.ty)), (((y, v.ro), (v.gl, v.al)), ((v.re, v.th), v.tc))), ((((v.rc, v.mk), (v.fr, v.fn)), ((v.st, v.rs), v.an)), (((v.sp, v.np), v.pg), ((v.wc, v.ws), v.wp))))
def Ho.sro (v : Ho) (y : Nat → Ro) : Ho := (((((v.ab, v.fc), (v.cn, v.me)), ((v.nt, v.nr), v.ty)), (((v.to, y), (v.gl, v.al)), ((v.re, v.th), v.tc))), ((((v.rc, v.mk), (v.fr, v.fn)), ((v.st, v.rs), v.an)), (((v.sp, v.np), v.pg), ((v.wc, v.ws), v.wp))))
def Ho.sgl (v : Ho) (y : Nat → Int64) : Ho := (((((v.ab, v.fc), (v.cn, v.me)), ((v.nt, v.nr), v.ty)), (((v.to, v.ro), (y, v.al)), ((v.re, v.th), v.tc))), ((((v.rc, v.mk), (v.fr, v.fn)), ((v.st, v.rs), v.an)), (((v.sp, v.np), v.pg), ((v.wc, v.ws), v.wp))))
def Ho.sal (v : Ho) (y : Nat → Option (Fin 60)) : Ho := (((((v.ab, v.fc), (v.cn, v.me)), ((v.nt, v.nr), v.ty)), (((v.to, v.ro), (v.gl, y)), ((v.re, v.th), v.tc))), ((((v.rc, v.mk), (v.fr, v.fn)), ((v.st, v.rs), v.an)), (((v.sp, v.np), v.pg), ((v.wc, v.ws), v.wp))))
def Ho.sre (v : Ho) (y : Nat → Option (Fin 60)) : Ho := (((((v.ab, v.fc), (v.cn, v.me)), ((v.nt, v.nr), v.ty)), (((v.to, v.ro), (v.gl, v.al)), ((y, v.th), v.tc))), ((((v.rc, v.mk), (v.fr, v.fn)), ((v.st, v.rs), v.an)), (((v.sp, v.np), v.pg), ((v.wc, v.ws), v.wp))))
def Ho.sth (v : Ho) (y : Fin 60 → Th) : Ho := (((((v.ab, v.fc), (v.cn, v.me)), ((v.nt, v.nr), v.ty)), (((v.to, v.ro), (v.gl, v.al)), ((v.re, y), v.tc))), ((((v.rc, v.mk), (v.fr, v.fn)), ((v.st, v.rs), v.an)), (((v.sp, v.np), v.pg), ((v.wc, v.ws), v.wp))))
def Ho.stc (v : Ho) (y : Int32) : Ho := (((((v.ab, v.fc), (v.cn, v.me)), ((v.nt, v.nr), v.ty)), (((v.to, v.ro), (v.gl, v.al)), ((v.re, v.th), y))), ((((v.rc, v.mk), (v.fr, v.fn)), ((v.st, v.rs), v.an)), (((v.sp, v.np), v.pg), ((v.wc, v.ws), v.wp))))
def Ho.src (v : Ho) (y : Int32) : Ho := (((((v.ab, v.fc), (v.cn, v.me)), ((v.nt, v.nr), v.ty)), (((v.to, v.ro), (v.gl, v.al)), ((v.re, v.th), v.tc))), ((((y, v.mk), (v.fr, v.fn)), ((v.st, v.rs), v.an)), (((v.sp, v.np), v.pg), ((v.wc, v.ws), v.wp))))
def Ho.smk (v : Ho) (y : Int32) : Ho := (((((v.ab, v.fc), (v.cn, v.me)), ((v.nt, v.nr), v.ty)), (((v.to, v.ro), (v.gl, v.al)), ((v.re, v.th), v.tc))), ((((v.rc, y), (v.fr, v.fn)), ((v.st, v.rs), v.an)), (((v.sp, v.np), v.pg), ((v.wc, v.ws), v.wp))))
def Ho.sfr (v : Ho) (y : Fin 12 → Fr) : Ho := (((((v.ab, v.fc), (v.cn, v.me)), ((v.nt, v.nr), v.ty)), (((v.to, v.ro), (v.gl, v.al)), ((v.re, v.th), v.tc))), ((((v.rc, v.mk), (y, v.fn)), ((v.st, v.rs), v.an)), (((v.sp, v.np), v.pg), ((v.wc, v.ws), v.wp))))
def Ho.sfn (v : Ho) (y : Int32) : Ho := (((((v.ab, v.fc), (v.cn, v.me)), ((v.nt, v.nr), v.ty)), (((v.to, v.ro), (v.gl, v.al)), ((v.re, v.th), v.tc))), ((((v.rc, v.mk), (v.fr, y)), ((v.st, v.rs), v.an)), (((v.sp, v.np), v.pg), ((v.wc, v.ws), v.wp))))
def Ho.sst (v : Ho) (y : Int32) : Ho := (((((v.ab, v.fc), (v.cn, v.me)), ((v.nt, v.nr), v.ty)), (((v.to, v.ro), (v.gl, v.al)), ((v.re, v.th), v.tc))), ((((v.rc, v.mk), (v.fr, v.fn)), ((y, v.rs), v.an)), (((v.sp, v.np), v.pg), ((v.wc, v.ws), v.wp))))
def Ho.srs (v : Ho) (y : Int32) : Ho := (((((v.ab, v.fc), (v.cn, v.me)), ((v.nt, v.nr), v.ty)), (((v.to, v.ro), (v.gl, v.al)), ((v.re, v.th), v.tc))), ((((v.rc, v.mk), (v.fr, v.fn)), ((v.st, y), v.an)), (((v.sp, v.np), v.pg), ((v.wc, v.ws), v.wp))))
def Ho.san (v : Ho) (y : Int64) : Ho := (((((v.ab, v.fc), (v.cn, v.me)), ((v.nt, v.nr), v.ty)), (((v.to, v.ro), (v.gl, v.al)), ((v.re, v.th), v.tc))), ((((v.rc, v.mk), (v.fr, v.fn)), ((v.st, v.rs), y)), (((v.sp, v.np), v.pg), ((v.wc, v.ws), v.wp))))
def Ho.ssp (v : Ho) (y : Int32) : Ho := (((((v.ab, v.fc), (v.cn, v.me)), ((v.nt, v.nr), v.ty)), (((v.to, v.ro), (v.gl, v.al)), ((v.re, v.th), v.tc))), ((((v.rc, v.mk), (v.fr, v.fn)), ((v.st, v.rs), v.an)), (((y, v.np), v.pg), ((v.wc, v.ws), v.wp))))
def Ho.snp (v : Ho) (y : Nat) : Ho := (((((v.ab, v.fc), (v.cn, v.me)), ((v.nt, v.nr), v.ty)), (((v.to, v.ro), (v.gl, v.al)), ((v.re, v.th), v.tc))), ((((v.rc, v.mk), (v.fr, v.fn)), ((v.st, v.rs), v.an)), (((v.sp, y), v.pg), ((v.wc, v.ws), v.wp))))
def Ho.spg (v : Ho) (y : Nat → Nat → Int64) : Ho := (((((v.ab, v.fc), (v.cn, v.me)), ((v.nt, v.nr), v.ty)), (((v.to, v.ro), (v.gl, v.al)), ((v.re, v.th), v.tc))), ((((v.rc, v.mk), (v.fr, v.fn)), ((v.st, v.rs), v.an)), (((v.sp, v.np), y), ((v.wc, v.ws), v.wp))))
def Ho.swc (v : Ho) (y : Int32) : Ho := (((((v.ab, v.fc), (v.cn, v.me)), ((v.nt, v.nr), v.ty)), (((v.to, v.ro), (v.gl, v.al)), ((v.re, v.th), v.tc))), ((((v.rc, v.mk), (v.fr, v.fn)), ((v.st, v.rs), v.an)), (((v.sp, v.np), v.pg), ((y, v.ws), v.wp))))
def Ho.sws (v : Ho) (y : Int64) : Ho := (((((v.ab, v.fc), (v.cn, v.me)), ((v.nt, v.nr), v.ty)), (((v.to, v.ro), (v.gl, v.al)), ((v.re, v.th), v.tc))), ((((v.rc, v.mk), (v.fr, v.fn)), ((v.st, v.rs), v.an)), (((v.sp, v.np), v.pg), ((v.wc, y), v.wp))))
def Ho.swp (v : Ho) (y : Int64) : Ho := (((((v.ab, v.fc), (v.cn, v.me)), ((v.nt, v.nr), v.ty)), (((v.to, v.ro), (v.gl, v.al)), ((v.re, v.th), v.tc))), ((((v.rc, v.mk), (v.fr, v.fn)), ((v.st, v.rs), v.an)), (((v.sp, v.np), v.pg), ((v.wc, v.ws), y))))
abbrev Tg : Type := (Unit ⊕ Unit ⊕ Unit ⊕ Unit ⊕ Unit ⊕ Unit ⊕ Unit ⊕ Unit ⊕ Unit ⊕ Unit ⊕ Unit ⊕ Unit ⊕ Unit) ⊕ (Fin 60 ⊕ Fin 60) ⊕ (Fin 12 ⊕ Fin 12 ⊕ Fin 12 ⊕ Fin 12) ⊕ (Nat) ⊕ (Nat ⊕ Nat ⊕ Nat ⊕ Nat ⊕ Nat ⊕ Nat) ⊕ (Nat ⊕ Nat)
def Tg.ho : Tg := (.inl (.inl ()))
def Tg.cl : Tg := (.inl (.inr (.inl ())))
def Tg.ab : Tg := (.inl (.inr (.inr (.inl ()))))
def Tg.fc : Tg := (.inl (.inr (.inr (.inr (.inl ())))))
def Tg.me : Tg := (.inl (.inr (.inr (.inr (.inr (.inl ()))))))
def Tg.gl : Tg := (.inl (.inr (.inr (.inr (.inr (.inr (.inl ())))))))
def Tg.ts : Tg := (.inl (.inr (.inr (.inr (.inr (.inr (.inr (.inl ()))))))))
def Tg.al : Tg := (.inl (.inr (.inr (.inr (.inr (.inr (.inr (.inr (.inl ())))))))))
def Tg.re : Tg := (.inl (.inr (.inr (.inr (.inr (.inr (.inr (.inr (.inr (.inl ()))))))))))
def Tg.fs : Tg := (.inl (.inr (.inr (.inr (.inr (.inr (.inr (.inr (.inr (.inr (.inl ())))))))))))
def Tg.wr : Tg := (.inl (.inr (.inr (.inr (.inr (.inr (.inr (.inr (.inr (.inr (.inr (.inl ()))))))))))))
def Tg.pl : Tg := (.inl (.inr (.inr (.inr (.inr (.inr (.inr (.inr (.inr (.inr (.inr (.inr (.inl ())))))))))))))
def Tg.el : Tg := (.inl (.inr (.inr (.inr (.inr (.inr (.inr (.inr (.inr (.inr (.inr (.inr (.inr ())))))))))))))
def Tg.th (i : Fin 60) : Tg := (.inr (.inl (.inl i)))
def Tg.tp (i : Fin 60) : Tg := (.inr (.inl (.inr i)))
def Tg.fr (i : Fin 12) : Tg := (.inr (.inr (.inl (.inl i))))
def Tg.fa (i : Fin 12) : Tg := (.inr (.inr (.inl (.inr (.inl i)))))
def Tg.ft (i : Fin 12) : Tg := (.inr (.inr (.inl (.inr (.inr (.inl i))))))
def Tg.fp (i : Fin 12) : Tg := (.inr (.inr (.inl (.inr (.inr (.inr i))))))
def Tg.to (i : Nat) : Tg := (.inr (.inr (.inr (.inl i))))
def Tg.ro (i : Nat) : Tg := (.inr (.inr (.inr (.inr (.inl (.inl i))))))
def Tg.rl (i : Nat) : Tg := (.inr (.inr (.inr (.inr (.inl (.inr (.inl i)))))))
def Tg.rf (i : Nat) : Tg := (.inr (.inr (.inr (.inr (.inl (.inr (.inr (.inl i))))))))
def Tg.rg (i : Nat) : Tg := (.inr (.inr (.inr (.inr (.inl (.inr (.inr (.inr (.inl i)))))))))
def Tg.rd (i : Nat) : Tg := (.inr (.inr (.inr (.inr (.inl (.inr (.inr (.inr (.inr (.inl i))))))))))
def Tg.rq (i : Nat) : Tg := (.inr (.inr (.inr (.inr (.inl (.inr (.inr (.inr (.inr (.inr i))))))))))
def Tg.pg (i : Nat) : Tg := (.inr (.inr (.inr (.inr (.inr (.inl i))))))
def Tg.pv (i : Nat) : Tg := (.inr (.inr (.inr (.inr (.inr (.inr i))))))
abbrev Zo : Type := ((((Nat → Option Tg) × (Nat → Int32)) × ((Nat) × (Int32))) × (((Nat) × (Nat → Nat)) × (Nat → Nat)))
abbrev Xo : Type := (Tg → Nat) × Int32 × Zo
def Xo.f (v : Xo) : Tg → Nat := v.1
def Xo.ht (v : Xo) : Int32 := v.2.1
def Xo.z (v : Xo) : Zo := v.2.2
def Xo.b (v : Xo) : Nat → Option Tg := v.2.2.1.1.1
def Xo.cm (v : Xo) : Nat → Int32 := v.2.2.1.1.2
def Xo.ec (v : Xo) : Nat := v.2.2.1.2.1
def Xo.mc (v : Xo) : Int32 := v.2.2.1.2.2
def Xo.pe (v : Xo) : Nat := v.2.2.2.1.1
def Xo.pp (v : Xo) : Nat → Nat := v.2.2.2.1.2
def Xo.pq (v : Xo) : Nat → Nat := v.2.2.2.2
def Zo.b (z : Zo) : Nat → Option Tg := z.1.1.1
def mkZ (b : Nat → Option Tg) (cm : Nat → Int32) (ec : Nat) (mc : Int32) (pe : Nat) (pp : Nat → Nat) (pq : Nat → Nat) : Zo := (((b, cm), (ec, mc)), ((pe, pp), pq))
def Xo.pgs (x : Xo) (z : Zo) : Xo := (x.f, x.ht, z)
def Xo.zcm (x : Xo) (c : Nat → Int32) : Zo := mkZ x.b c x.ec x.mc x.pe x.pp x.pq
def Xo.sht (x : Xo) (y : Int32) : Xo := (x.f, y, x.2.2)
/-- where a cell lies -/
def Xo.a (x : Xo) : Tg → Nat := Sum.elim (Sum.elim (fun _ => x.f (.ho)) (Sum.elim (fun _ => x.f (.cl)) (Sum.elim (fun _ => x.f (.ab)) (Sum.elim (fun _ => x.f (.fc)) (Sum.elim (fun _ => x.f (.me)) (Sum.elim (fun _ => x.f (.gl)) (Sum.elim (fun _ => x.f (.ts)) (Sum.elim (fun _ => x.f (.al)) (Sum.elim (fun _ => x.f (.re)) (Sum.elim (fun _ => x.f (.fs)) (Sum.elim (fun _ => x.f (.wr)) (Sum.elim (fun _ => x.f (.pl)) ((fun _ => x.pe)))))))))))))) (Sum.elim (Sum.elim (fun i => x.f (.th i)) ((fun i => x.f (.tp i)))) (Sum.elim (Sum.elim (fun i => x.f (.fr i)) (Sum.elim (fun i => x.f (.fa i)) (Sum.elim (fun i => x.f (.ft i)) ((fun i => x.f (.fp i)))))) (Sum.elim ((fun i => x.f (.to i))) (Sum.elim (Sum.elim (fun i => x.f (.ro i)) (Sum.elim (fun i => x.f (.rl i)) (Sum.elim (fun i => x.f (.rf i)) (Sum.elim (fun i => x.f (.rg i)) (Sum.elim (fun i => x.f (.rd i)) ((fun i => x.f (.rq i)))))))) ((Sum.elim (fun i => x.pp i) ((fun i => x.pq i))))))))
def fF (k : Nat) : Option (Fin 12) := if h : k < 12 then some ⟨k, h⟩ else none
def updF {n : Nat} {α : Type} (f : Fin n → α) (i : Fin n) (v : α) : Fin n → α := fun j => cond (Nat.beq j.val i.val) v (f j)
def updN {α : Type} (f : Nat → α) (i : Nat) (v : α) : Nat → α := fun j => cond (Nat.beq j i) v (f j)
theorem updF_s {n : Nat} {α : Type} {f : Fin n → α} {i : Fin n} {v : α} : updF f i v i = v := by unfold updF; rw [Nat.beq_refl]; rfl
theorem updF_o {n : Nat} {α : Type} {f : Fin n → α} {i j : Fin n} {v : α} (h : j ≠ i) : updF f i v j = f j := by
  unfold updF
  have e : Nat.beq j.val i.val = false := Bool.eq_false_iff.mpr (fun q => h (Fin.ext (Nat.eq_of_beq_eq_true q)))
  rw [e]; rfl
theorem updN_s {α : Type} {f : Nat → α} {i : Nat} {v : α} : updN f i v i = v := by unfold updN; rw [Nat.beq_refl]; rfl
theorem updN_o {α : Type} {f : Nat → α} {i j : Nat} {v : α} (h : j ≠ i) : updN f i v j = f j := by
  unfold updN
  have e : Nat.beq j i = false := Bool.eq_false_iff.mpr (fun q => h (Nat.eq_of_beq_eq_true q))
  rw [e]; rfl
theorem updF_id {n : Nat} {α : Type} {f : Fin n → α} {i : Fin n} : updF f i (f i) = f := by
  funext j
  by_cases h : j = i
  · subst h; exact updF_s
  · exact updF_o h
theorem updN_id {α : Type} {f : Nat → α} {i : Nat} : updN f i (f i) = f := by
  funext j
  by_cases h : j = i
  · subst h; exact updN_s
  · exact updN_o h
theorem updF_2 {n : Nat} {α : Type} {f : Fin n → α} {i : Fin n} {v u : α} : updF (updF f i v) i u = updF f i u := by
  funext j
  by_cases h : j = i
  · subst h; rw [updF_s, updF_s]
  · rw [updF_o h, updF_o h, updF_o h]
theorem updN_2 {α : Type} {f : Nat → α} {i : Nat} {v u : α} : updN (updN f i v) i u = updN f i u := by
  funext j
  by_cases h : j = i
  · subst h; rw [updN_s, updN_s]
  · rw [updN_o h, updN_o h, updN_o h]
/-- one thing, one frame, one method, one list of rows set anew -/
def Ho.frS (S : Ho) (i : Fin 12) (v : Fr) : Ho := S.sfr (updF S.fr i v)
theorem frS_id {S : Ho} {i : Fin 12} : S.frS i (S.fr i) = S := by
  unfold Ho.frS; rw [updF_id]; rfl
theorem frS_s {S : Ho} {i : Fin 12} {v : Fr} : (S.frS i v).fr i = v := updF_s
theorem frS_o {S : Ho} {i j : Fin 12} {v : Fr} (h : j ≠ i) : (S.frS i v).fr j = S.fr j := updF_o h
theorem frS_2 {S : Ho} {i : Fin 12} {v u : Fr} : (S.frS i v).frS i u = S.frS i u := by
  show S.sfr (updF (updF S.fr i v) i u) = S.sfr (updF S.fr i u)
  rw [updF_2]
def Ho.thS (S : Ho) (i : Fin 60) (v : Th) : Ho := S.sth (updF S.th i v)
theorem thS_id {S : Ho} {i : Fin 60} : S.thS i (S.th i) = S := by
  unfold Ho.thS; rw [updF_id]; rfl
theorem thS_s {S : Ho} {i : Fin 60} {v : Th} : (S.thS i v).th i = v := updF_s
theorem thS_o {S : Ho} {i j : Fin 60} {v : Th} (h : j ≠ i) : (S.thS i v).th j = S.th j := updF_o h
theorem thS_2 {S : Ho} {i : Fin 60} {v u : Th} : (S.thS i v).thS i u = S.thS i u := by
  show S.sth (updF (updF S.th i v) i u) = S.sth (updF S.th i u)
  rw [updF_2]
def Ho.toS (S : Ho) (i : Nat) (v : To) : Ho := S.sto (updN S.to i v)
theorem toS_id {S : Ho} {i : Nat} : S.toS i (S.to i) = S := by
  unfold Ho.toS; rw [updN_id]; rfl
theorem toS_s {S : Ho} {i : Nat} {v : To} : (S.toS i v).to i = v := updN_s
theorem toS_o {S : Ho} {i j : Nat} {v : To} (h : j ≠ i) : (S.toS i v).to j = S.to j := updN_o h
theorem toS_2 {S : Ho} {i : Nat} {v u : To} : (S.toS i v).toS i u = S.toS i u := by
  show S.sto (updN (updN S.to i v) i u) = S.sto (updN S.to i u)
  rw [updN_2]
def Ho.roS (S : Ho) (i : Nat) (v : Ro) : Ho := S.sro (updN S.ro i v)
theorem roS_id {S : Ho} {i : Nat} : S.roS i (S.ro i) = S := by
  unfold Ho.roS; rw [updN_id]; rfl
theorem roS_s {S : Ho} {i : Nat} {v : Ro} : (S.roS i v).ro i = v := updN_s
theorem roS_o {S : Ho} {i j : Nat} {v : Ro} (h : j ≠ i) : (S.roS i v).ro j = S.ro j := updN_o h
theorem roS_2 {S : Ho} {i : Nat} {v u : Ro} : (S.roS i v).roS i u = S.roS i u := by
  show S.sro (updN (updN S.ro i v) i u) = S.sro (updN S.ro i u)
  rw [updN_2]
/-- which cells there are -/
def vl (S : Ho) : Tg → Bool := Sum.elim (Sum.elim (fun _ => true) (Sum.elim (fun _ => true) (Sum.elim (fun _ => true) (Sum.elim (fun _ => true) (Sum.elim (fun _ => true) (Sum.elim (fun _ => true) (Sum.elim (fun _ => true) (Sum.elim (fun _ => true) (Sum.elim (fun _ => true) (Sum.elim (fun _ => true) (Sum.elim (fun _ => true) (Sum.elim (fun _ => true) ((fun _ => decide (0 < S.np))))))))))))))) (Sum.elim (Sum.elim (fun _ => true) ((fun _ => true))) (Sum.elim (Sum.elim (fun _ => true) (Sum.elim (fun _ => true) (Sum.elim (fun _ => true) ((fun _ => true))))) (Sum.elim ((fun i => decide (i < S.nt))) (Sum.elim (Sum.elim (fun i => decide (i < S.nr)) (Sum.elim (fun i => decide (i < S.nr)) (Sum.elim (fun i => decide (i < S.nr)) (Sum.elim (fun i => decide (i < S.nr)) (Sum.elim (fun i => decide (i < S.nr)) ((fun i => decide (i < S.nr)))))))) ((Sum.elim (fun i => decide (i < S.np)) ((fun i => decide (i < S.np)))))))))
/-- what a cell holds -/
def cSg (κ : Nat → Nat) (ar : Nat → ClassId) (x : Xo) (f_ab : Nat → Int32) (f_fc : Nat → Int32) (f_cn : Int32) (f_me : Nat → Option Nat) (f_ty : Nat) (f_gl : Nat → Int64) (f_al : Nat → Option (Fin 60)) (f_re : Nat → Option (Fin 60)) (f_tc : Int32) (f_rc : Int32) (f_mk : Int32) (f_fn : Int32) (f_st : Int32) (f_rs : Int32) (f_an : Int64) (f_sp : Int32) (f_np : Nat) (f_wc : Int32) (f_ws : Int64) (f_wp : Int64) : Unit ⊕ Unit ⊕ Unit ⊕ Unit ⊕ Unit ⊕ Unit ⊕ Unit ⊕ Unit ⊕ Unit ⊕ Unit ⊕ Unit ⊕ Unit ⊕ Unit → va_E := Sum.elim (fun _ => (.inr (14, [.ref (x.f .cl), .ref (x.f .me), .ref (x.f (.ro f_ty)), .int x.ht, .ref (x.f .gl), .ref (x.f .ts), .ref (x.f .fs), .int f_fn, .int f_st, .int f_rs, .long f_an, .int f_sp, .ref (x.f .wr)]) : va_E)) (Sum.elim (fun _ => (.inr (6, [.ref (x.f .ab), .ref (x.f .fc), .int f_cn]) : va_E)) (Sum.elim (fun _ => (.inl (ar 0, 12, .inl f_ab) : va_E)) (Sum.elim (fun _ => (.inl (ar 0, 12, .inl f_fc) : va_E)) (Sum.elim (fun _ => (.inl (ar 7, 192, .inr (.inr (.inr (.inr (fun j9 => (f_me j9).map (fun k9 => x.f (.to k9))))))) : va_E)) (Sum.elim (fun _ => (.inl (ar 1, 8, .inr (.inl f_gl)) : va_E)) (Sum.elim (fun _ => (.inr (11, [.ref (x.f .al), .ref (x.f .re), .int f_tc, .int f_rc, .int f_mk]) : va_E)) (Sum.elim (fun _ => (.inl (ar 6, 60, .inr (.inr (.inr (.inr (fun j9 => (f_al j9).map (fun k9 => x.f (.th k9))))))) : va_E)) (Sum.elim (fun _ => (.inl (ar 6, 60, .inr (.inr (.inr (.inr (fun j9 => (f_re j9).map (fun k9 => x.f (.th k9))))))) : va_E)) (Sum.elim (fun _ => (.inl (ar 5, 12, .inr (.inr (.inr (.inr (fun j9 => (fF j9).map (fun k9 => x.f (.fr k9))))))) : va_E)) (Sum.elim (fun _ => (.inr (13, [.ref (x.f .pl), .int f_wc, .long f_ws, .long f_wp]) : va_E)) (Sum.elim (fun _ => (.inr (5, [.int x.mc, .ref (if f_np = 0 then κ 0 else x.pe), .int (Int32.ofNat f_np)]) : va_E)) ((fun _ => (.inl (ar 8, 10, .inr (.inr (.inr (.inr (fun j9 => if j9 < f_np then some (x.pp j9) else none))))) : va_E))))))))))))))
def cTh (ar : Nat → ClassId) (x : Xo) (f_th : Fin 60 → Th) : Fin 60 ⊕ Fin 60 → va_E := Sum.elim (fun i => (.inr (10, [.ref (x.f (.tp i)), .int (f_th i).n, .int (f_th i).c, .int (f_th i).z, .int (f_th i).r]) : va_E)) ((fun i => (.inl (ar 1, 8, .inr (.inl (f_th i).p)) : va_E)))
def cFr (ar : Nat → ClassId) (x : Xo) (f_fr : Fin 12 → Fr) : Fin 12 ⊕ Fin 12 ⊕ Fin 12 ⊕ Fin 12 → va_E := Sum.elim (fun i => (.inr (7, [.ref (x.f (.fa i)), .ref (x.f (.ft i)), .ref (x.f (.fp i)), va_rf ((f_fr i).o.map (fun k9 => x.f (.to k9))), .long (f_fr i).v, .int (f_fr i).w, .int (f_fr i).d]) : va_E)) (Sum.elim (fun i => (.inl (ar 1, 2, .inr (.inl (f_fr i).a)) : va_E)) (Sum.elim (fun i => (.inl (ar 1, 4, .inr (.inl (f_fr i).t)) : va_E)) ((fun i => (.inl (ar 1, 8, .inr (.inl (f_fr i).p)) : va_E)))))
def cTo (ar : Nat → ClassId) (x : Xo) (f_to : Nat → To) : Nat → va_E := (fun i => (.inr (12, [.int (f_to i).c, .int (f_to i).s, .int (f_to i).a, .int (f_to i).t, .ref (x.f (.ro (f_to i).q)), .int (f_to i).n, .int (x.cm i)]) : va_E))
def cRo (ar : Nat → ClassId) (x : Xo) (f_ro : Nat → Ro) : Nat ⊕ Nat ⊕ Nat ⊕ Nat ⊕ Nat ⊕ Nat → va_E := Sum.elim (fun i => (.inr (9, [.ref (x.f (.rl i)), .ref (x.f (.rf i)), .ref (x.f (.rg i)), .ref (x.f (.rd i)), .ref (x.f (.rq i)), .int (f_ro i).n, .int (f_ro i).k]) : va_E)) (Sum.elim (fun i => (.inl (ar 2, 24, .inl (f_ro i).l) : va_E)) (Sum.elim (fun i => (.inl (ar 0, 24, .inl (f_ro i).f) : va_E)) (Sum.elim (fun i => (.inl (ar 0, 24, .inl (f_ro i).g) : va_E)) (Sum.elim (fun i => (.inl (ar 0, 24, .inl (f_ro i).d) : va_E)) ((fun i => (.inl (ar 0, 24, .inl (f_ro i).q) : va_E)))))))
def cPg (ar : Nat → ClassId) (x : Xo) (f_pg : Nat → Nat → Int64) : Nat ⊕ Nat → va_E := Sum.elim (fun i => (.inr (8, [.ref (x.pq i)]) : va_E)) ((fun i => (.inl (ar 1, 512, .inr (.inl (f_pg i))) : va_E)))
def cellH (κ : Nat → Nat) (ar : Nat → ClassId) (x : Xo) (S : Ho) : Tg → va_E := Sum.elim (cSg κ ar x S.ab S.fc S.cn S.me S.ty S.gl S.al S.re S.tc S.rc S.mk S.fn S.st S.rs S.an S.sp S.np S.wc S.ws S.wp) (Sum.elim (cTh ar x S.th) (Sum.elim (cFr ar x S.fr) (Sum.elim (cTo ar x S.to) (Sum.elim (cRo ar x S.ro) ((cPg ar x S.pg))))))
def ov (κ : Nat → Nat) (ar : Nat → ClassId) (x : Xo) (S : Ho) (G : gW) : gW := fun a => match x.b a with
  | some t => some (cellH κ ar x S t)
  | none => G a
/-- the addresses and the numbers of methods are in order -/
def OK (x : Xo) (S : Ho) : Prop := (∀ t, vl S t = true → x.b (x.a t) = some t) ∧ (∀ a t, x.b a = some t → x.a t = a) ∧ (∀ j k, S.me j = some k → k < S.nt) ∧ (∀ i k, (S.fr i).o = some k → k < S.nt) ∧ (∀ k, k < S.nt → (S.to k).q < S.nr) ∧ S.ty < S.nr ∧ (∀ a t, x.b a = some t → vl S t = true)
section OV
variable {κ : Nat → Nat} {ar : Nat → ClassId} {x x' : Xo} {S S' T : Ho} {G : gW} {t : Tg} {c : va_E}
theorem OK.e (h : OK x S) : ∀ t, vl S t = true → x.b (x.a t) = some t := h.1
theorem OK.v (h : OK x S) : ∀ a t, x.b a = some t → x.a t = a := h.2.1
theorem OK.m (h : OK x S) {j k : Nat} (q : S.me j = some k) : k < S.nt := h.2.2.1 j k q
theorem OK.o (h : OK x S) {i : Fin 12} {k : Nat} (q : (S.fr i).o = some k) : k < S.nt := h.2.2.2.1 i k q
theorem OK.q (h : OK x S) {k : Nat} (q : k < S.nt) : (S.to k).q < S.nr := h.2.2.2.2.1 k q
theorem OK.y (h : OK x S) : S.ty < S.nr := h.2.2.2.2.2.1
theorem OK.w (h : OK x S) : ∀ a t, x.b a = some t → vl S t = true := h.2.2.2.2.2.2
theorem OK.e_to (h : OK x S) {i : Nat} (q : i < S.nt) : x.b (x.a (.to i)) = some (.to i) := h.1 (.to i) (decide_eq_true q)
theorem OK.e_ro (h : OK x S) {i : Nat} (q : i < S.nr) : x.b (x.a (.ro i)) = some (.ro i) := h.1 (.ro i) (decide_eq_true q)
theorem OK.e_rl (h : OK x S) {i : Nat} (q : i < S.nr) : x.b (x.a (.rl i)) = some (.rl i) := h.1 (.rl i) (decide_eq_true q)
theorem OK.e_rf (h : OK x S) {i : Nat} (q : i < S.nr) : x.b (x.a (.rf i)) = some (.rf i) := h.1 (.rf i) (decide_eq_true q)
theorem OK.e_rg (h : OK x S) {i : Nat} (q : i < S.nr) : x.b (x.a (.rg i)) = some (.rg i) := h.1 (.rg i) (decide_eq_true q)
theorem OK.e_rd (h : OK x S) {i : Nat} (q : i < S.nr) : x.b (x.a (.rd i)) = some (.rd i) := h.1 (.rd i) (decide_eq_true q)
theorem OK.e_rq (h : OK x S) {i : Nat} (q : i < S.nr) : x.b (x.a (.rq i)) = some (.rq i) := h.1 (.rq i) (decide_eq_true q)
theorem OK.e_pg (h : OK x S) {i : Nat} (q : i < S.np) : x.b (x.a (.pg i)) = some (.pg i) := h.1 (.pg i) (decide_eq_true q)
theorem OK.e_pv (h : OK x S) {i : Nat} (q : i < S.np) : x.b (x.a (.pv i)) = some (.pv i) := h.1 (.pv i) (decide_eq_true q)
theorem ov_r (h : x.b (x.a t) = some t) : ov κ ar x S G (x.a t) = some (cellH κ ar x S t) := by
  unfold ov
  rw [h]
theorem ov_w (hv : ∀ a t, x.b a = some t → x.a t = a) (h : x.b (x.a t) = some t) (hb : x'.b = x.b) (hc : c = cellH κ ar x' S' t) (hs : ∀ t', t' ≠ t → cellH κ ar x' S' t' = cellH κ ar x S t') : g_up (ov κ ar x S G) (x.a t) c = ov κ ar x' S' G := by
  funext a
  unfold g_up ov
  rw [hb]
  by_cases q : a = x.a t
  · subst q
    rw [if_pos rfl, h, hc]
  · rw [if_neg q]
    cases hba : x.b a with
    | none => rfl
    | some t' =>
      have h1 := hv a t' hba
      have h2 : t' ≠ t := fun z => q (by rw [← h1, z])
      simp only [hs t' h2]
theorem vl_same (hn : T.nt = S.nt) (hr : T.nr = S.nr) (hp : T.np = S.np) (t : Tg) : vl T t = vl S t := by
  unfold vl
  rw [hn, hr, hp]
theorem vl_mono (hn : S.nt ≤ T.nt) (hr : S.nr ≤ T.nr) (hp : S.np ≤ T.np) {t : Tg} (h : vl S t = true) : vl T t = true := by
  rcases t with j | j | j | j | j | j
  · rcases j with ⟨⟩ | ⟨⟩ | ⟨⟩ | ⟨⟩ | ⟨⟩ | ⟨⟩ | ⟨⟩ | ⟨⟩ | ⟨⟩ | ⟨⟩ | ⟨⟩ | ⟨⟩ | ⟨⟩
    · rfl
    · rfl
    · rfl
    · rfl
    · rfl
    · rfl
    · rfl
    · rfl
    · rfl
    · rfl
    · rfl
    · rfl
    · have h' : decide (0 < S.np) = true := h
      exact decide_eq_true (Nat.lt_of_lt_of_le (of_decide_eq_true h') hp)
  · rcases j with j | j <;> rfl
  · rcases j with j | j | j | j <;> rfl
  · have h' : decide (j < S.nt) = true := h
    exact decide_eq_true (Nat.lt_of_lt_of_le (of_decide_eq_true h') hn)
  · rcases j with j | j | j | j | j | j <;> exact decide_eq_true (Nat.lt_of_lt_of_le (of_decide_eq_true h) hr)
  · rcases j with j | j <;> exact decide_eq_true (Nat.lt_of_lt_of_le (of_decide_eq_true h) hp)
theorem OK.same (h : OK x S) (hn : T.nt = S.nt) (hr : T.nr = S.nr) (hp : T.np = S.np) (hy : T.ty = S.ty) (hm : ∀ j k, T.me j = some k → k < S.nt) (ho : ∀ i k, (T.fr i).o = some k → k < S.nt) (hq : ∀ k, (T.to k).q = (S.to k).q) : OK x T :=
  ⟨fun t ht => h.e t (by rw [← vl_same hn hr hp t]; exact ht), h.v, fun j k q => by rw [hn]; exact hm j k q, fun i k q => by rw [hn]; exact ho i k q, fun k q => by rw [hq, hr]; exact h.q (by rw [← hn]; exact q), by rw [hy, hr]; exact h.y, fun a t q => by rw [vl_same hn hr hp t]; exact h.w a t q⟩
/-- a change that leaves methods, frames and pages alone -/
theorem OK.plain (h : OK x S) (hn : T.nt = S.nt) (hr : T.nr = S.nr) (hp : T.np = S.np) (hy : T.ty = S.ty) (hm : T.me = S.me) (ho : T.fr = S.fr) (ht : T.to = S.to) : OK x T :=
  h.same hn hr hp hy (fun j k q => h.m (by rw [← hm]; exact q)) (fun i k q => h.o (by rw [← ho]; exact q)) (fun k => by rw [ht])
theorem OK.frS (h : OK x S) {i : Fin 12} {v : Fr} (hv : ∀ k, v.o = some k → k < S.nt) : OK x (S.frS i v) :=
  h.same rfl rfl rfl rfl h.2.2.1 (fun j k q => by
    by_cases hj : j = i
    · subst hj
      rw [frS_s] at q
      exact hv k q
    · rw [frS_o hj] at q
      exact h.o q) (fun _ => rfl)
theorem OK.toS (h : OK x S) {i : Nat} {v : To} (hv : v.q = (S.to i).q) : OK x (S.toS i v) :=
  h.same rfl rfl rfl rfl h.2.2.1 h.2.2.2.1 (fun k => by
    by_cases hj : k = i
    · subst hj
      rw [toS_s]
      exact hv
    · rw [toS_o hj])
theorem OK.tyS (h : OK x S) {y : Nat} (hy : y < S.nr) : OK x (S.sty y) := ⟨fun t ht => h.e t (by rw [← vl_same (T := S.sty y) (S := S) rfl rfl rfl t]; exact ht), h.v, h.2.2.1, h.2.2.2.1, h.2.2.2.2.1, hy, fun a t q => by rw [vl_same (T := S.sty y) (S := S) rfl rfl rfl t]; exact h.w a t q⟩
theorem OK.meS (h : OK x S) {i : Nat} {e : Option Nat} (he : ∀ k, e = some k → k < S.nt) : OK x (S.sme (updN S.me i e)) :=
  h.same rfl rfl rfl rfl (fun j k q => by
    have q' : updN S.me i e j = some k := q
    by_cases hj : j = i
    · subst hj
      rw [updN_s] at q'
      exact he k q'
    · rw [updN_o hj] at q'
      exact h.m q') h.2.2.2.1 (fun _ => rfl)
theorem up_map {α : Type} {g : Nat → Option α} {F : α → Nat} {i : Nat} {e : Option α} : va_up (fun j => (g j).map F) i (e.map F) = fun j => (updN g i e j).map F := by
  funext j
  by_cases h : j = i
  · subst h
    show va_up _ _ _ _ = Option.map F (updN g j e j)
    rw [updN_s]
    exact if_pos rfl
  · show va_up _ _ _ _ = Option.map F (updN g i e j)
    rw [updN_o h]
    exact if_neg h
theorem ov_rfr {i : Fin 12} {v : Fr} (h : x.b (x.a (.fr i)) = some (.fr i)) : ov κ ar x (S.frS i v) G (x.f (.fr i)) = some (.inr (7, [.ref (x.f (.fa i)), .ref (x.f (.ft i)), .ref (x.f (.fp i)), va_rf (v.o.map (fun k9 => x.f (.to k9))), .long v.v, .int v.w, .int v.d])) := by
  refine (ov_r (t := .fr i) h).trans ?_
  show some (.inr (7, [.ref (x.f (.fa i)), .ref (x.f (.ft i)), .ref (x.f (.fp i)), va_rf (((S.frS i v).fr i).o.map (fun k9 => x.f (.to k9))), .long ((S.frS i v).fr i).v, .int ((S.frS i v).fr i).w, .int ((S.frS i v).fr i).d]) : va_E) = _
  rw [frS_s]
theorem ov_rfa {i : Fin 12} {v : Fr} (h : x.b (x.a (.fa i)) = some (.fa i)) : ov κ ar x (S.frS i v) G (x.f (.fa i)) = some (.inl (ar 1, 2, .inr (.inl v.a))) := by
  refine (ov_r (t := .fa i) h).trans ?_
  show some (.inl (ar 1, 2, .inr (.inl ((S.frS i v).fr i).a)) : va_E) = _
  rw [frS_s]
theorem ov_rft {i : Fin 12} {v : Fr} (h : x.b (x.a (.ft i)) = some (.ft i)) : ov κ ar x (S.frS i v) G (x.f (.ft i)) = some (.inl (ar 1, 4, .inr (.inl v.t))) := by
  refine (ov_r (t := .ft i) h).trans ?_
  show some (.inl (ar 1, 4, .inr (.inl ((S.frS i v).fr i).t)) : va_E) = _
  rw [frS_s]
theorem ov_rfp {i : Fin 12} {v : Fr} (h : x.b (x.a (.fp i)) = some (.fp i)) : ov κ ar x (S.frS i v) G (x.f (.fp i)) = some (.inl (ar 1, 8, .inr (.inl v.p))) := by
  refine (ov_r (t := .fp i) h).trans ?_
  show some (.inl (ar 1, 8, .inr (.inl ((S.frS i v).fr i).p)) : va_E) = _
  rw [frS_s]
theorem ov_wfr0 {i : Fin 12} {g g' : Fin 12 → Fr} (hv : ∀ a t, x.b a = some t → x.a t = a) (h : x.b (x.a (.fr i)) = some (.fr i)) (hg : ∀ j, j ≠ i → g' j = g j) (hc : c = .inr (7, [.ref (x.f (.fa i)), .ref (x.f (.ft i)), .ref (x.f (.fp i)), va_rf ((g' i).o.map (fun k9 => x.f (.to k9))), .long (g' i).v, .int (g' i).w, .int (g' i).d])) (h_a : (g' i).a = (g i).a) (h_t : (g' i).t = (g i).t) (h_p : (g' i).p = (g i).p) : g_up (ov κ ar x (S.sfr g) G) (x.f (.fr i)) c = ov κ ar x (S.sfr g') G := by
  refine ov_w (t := .fr i) hv h rfl hc (fun t' q => ?_)
  rcases t' with j | j | j | j | j | j
  · rfl
  · rfl
  · rcases j with j | j | j | j
    · by_cases hj : j = i
      · subst hj
        exact absurd rfl q
      · show (.inr (7, [.ref (x.f (.fa j)), .ref (x.f (.ft j)), .ref (x.f (.fp j)), va_rf ((g' j).o.map (fun k9 => x.f (.to k9))), .long (g' j).v, .int (g' j).w, .int (g' j).d]) : va_E) = .inr (7, [.ref (x.f (.fa j)), .ref (x.f (.ft j)), .ref (x.f (.fp j)), va_rf ((g j).o.map (fun k9 => x.f (.to k9))), .long (g j).v, .int (g j).w, .int (g j).d])
        rw [hg j hj]
    · by_cases hj : j = i
      · subst hj
        show (.inl (ar 1, 2, .inr (.inl (g' j).a)) : va_E) = .inl (ar 1, 2, .inr (.inl (g j).a))
        rw [h_a]
      · show (.inl (ar 1, 2, .inr (.inl (g' j).a)) : va_E) = .inl (ar 1, 2, .inr (.inl (g j).a))
        rw [hg j hj]
    · by_cases hj : j = i
      · subst hj
        show (.inl (ar 1, 4, .inr (.inl (g' j).t)) : va_E) = .inl (ar 1, 4, .inr (.inl (g j).t))
        rw [h_t]
      · show (.inl (ar 1, 4, .inr (.inl (g' j).t)) : va_E) = .inl (ar 1, 4, .inr (.inl (g j).t))
        rw [hg j hj]
    · by_cases hj : j = i
      · subst hj
        show (.inl (ar 1, 8, .inr (.inl (g' j).p)) : va_E) = .inl (ar 1, 8, .inr (.inl (g j).p))
        rw [h_p]
      · show (.inl (ar 1, 8, .inr (.inl (g' j).p)) : va_E) = .inl (ar 1, 8, .inr (.inl (g j).p))
        rw [hg j hj]
  · rfl
  · rfl
  · rfl
theorem ov_wfr {i : Fin 12} {v v' : Fr} (hv : ∀ a t, x.b a = some t → x.a t = a) (h : x.b (x.a (.fr i)) = some (.fr i)) (hc : c = .inr (7, [.ref (x.f (.fa i)), .ref (x.f (.ft i)), .ref (x.f (.fp i)), va_rf (v'.o.map (fun k9 => x.f (.to k9))), .long v'.v, .int v'.w, .int v'.d])) (h_a : v'.a = v.a) (h_t : v'.t = v.t) (h_p : v'.p = v.p) : g_up (ov κ ar x (S.frS i v) G) (x.f (.fr i)) c = ov κ ar x (S.frS i v') G :=
  ov_wfr0 (g := updF S.fr i v) (g' := updF S.fr i v') hv h (fun j hj => by rw [updF_o hj, updF_o hj]) (by rw [updF_s]; exact hc) (by rw [updF_s, updF_s]; exact h_a) (by rw [updF_s, updF_s]; exact h_t) (by rw [updF_s, updF_s]; exact h_p)
theorem ov_wfa0 {i : Fin 12} {g g' : Fin 12 → Fr} (hv : ∀ a t, x.b a = some t → x.a t = a) (h : x.b (x.a (.fa i)) = some (.fa i)) (hg : ∀ j, j ≠ i → g' j = g j) (hc : c = .inl (ar 1, 2, .inr (.inl (g' i).a))) (h_t : (g' i).t = (g i).t) (h_p : (g' i).p = (g i).p) (h_o : (g' i).o = (g i).o) (h_v : (g' i).v = (g i).v) (h_w : (g' i).w = (g i).w) (h_d : (g' i).d = (g i).d) : g_up (ov κ ar x (S.sfr g) G) (x.f (.fa i)) c = ov κ ar x (S.sfr g') G := by
  refine ov_w (t := .fa i) hv h rfl hc (fun t' q => ?_)
  rcases t' with j | j | j | j | j | j
  · rfl
  · rfl
  · rcases j with j | j | j | j
    · by_cases hj : j = i
      · subst hj
        show (.inr (7, [.ref (x.f (.fa j)), .ref (x.f (.ft j)), .ref (x.f (.fp j)), va_rf ((g' j).o.map (fun k9 => x.f (.to k9))), .long (g' j).v, .int (g' j).w, .int (g' j).d]) : va_E) = .inr (7, [.ref (x.f (.fa j)), .ref (x.f (.ft j)), .ref (x.f (.fp j)), va_rf ((g j).o.map (fun k9 => x.f (.to k9))), .long (g j).v, .int (g j).w, .int (g j).d])
        rw [h_o, h_v, h_w, h_d]
      · show (.inr (7, [.ref (x.f (.fa j)), .ref (x.f (.ft j)), .ref (x.f (.fp j)), va_rf ((g' j).o.map (fun k9 => x.f (.to k9))), .long (g' j).v, .int (g' j).w, .int (g' j).d]) : va_E) = .inr (7, [.ref (x.f (.fa j)), .ref (x.f (.ft j)), .ref (x.f (.fp j)), va_rf ((g j).o.map (fun k9 => x.f (.to k9))), .long (g j).v, .int (g j).w, .int (g j).d])
        rw [hg j hj]
    · by_cases hj : j = i
      · subst hj
        exact absurd rfl q
      · show (.inl (ar 1, 2, .inr (.inl (g' j).a)) : va_E) = .inl (ar 1, 2, .inr (.inl (g j).a))
        rw [hg j hj]
    · by_cases hj : j = i
      · subst hj
        show (.inl (ar 1, 4, .inr (.inl (g' j).t)) : va_E) = .inl (ar 1, 4, .inr (.inl (g j).t))
        rw [h_t]
      · show (.inl (ar 1, 4, .inr (.inl (g' j).t)) : va_E) = .inl (ar 1, 4, .inr (.inl (g j).t))
        rw [hg j hj]
    · by_cases hj : j = i
      · subst hj
        show (.inl (ar 1, 8, .inr (.inl (g' j).p)) : va_E) = .inl (ar 1, 8, .inr (.inl (g j).p))
        rw [h_p]
      · show (.inl (ar 1, 8, .inr (.inl (g' j).p)) : va_E) = .inl (ar 1, 8, .inr (.inl (g j).p))
        rw [hg j hj]
  · rfl
  · rfl
  · rfl
theorem ov_wfa {i : Fin 12} {v v' : Fr} (hv : ∀ a t, x.b a = some t → x.a t = a) (h : x.b (x.a (.fa i)) = some (.fa i)) (hc : c = .inl (ar 1, 2, .inr (.inl v'.a))) (h_t : v'.t = v.t) (h_p : v'.p = v.p) (h_o : v'.o = v.o) (h_v : v'.v = v.v) (h_w : v'.w = v.w) (h_d : v'.d = v.d) : g_up (ov κ ar x (S.frS i v) G) (x.f (.fa i)) c = ov κ ar x (S.frS i v') G :=
  ov_wfa0 (g := updF S.fr i v) (g' := updF S.fr i v') hv h (fun j hj => by rw [updF_o hj, updF_o hj]) (by rw [updF_s]; exact hc) (by rw [updF_s, updF_s]; exact h_t) (by rw [updF_s, updF_s]; exact h_p) (by rw [updF_s, updF_s]; exact h_o) (by rw [updF_s, updF_s]; exact h_v) (by rw [updF_s, updF_s]; exact h_w) (by rw [updF_s, updF_s]; exact h_d)
theorem ov_wft0 {i : Fin 12} {g g' : Fin 12 → Fr} (hv : ∀ a t, x.b a = some t → x.a t = a) (h : x.b (x.a (.ft i)) = some (.ft i)) (hg : ∀ j, j ≠ i → g' j = g j) (hc : c = .inl (ar 1, 4, .inr (.inl (g' i).t))) (h_a : (g' i).a = (g i).a) (h_p : (g' i).p = (g i).p) (h_o : (g' i).o = (g i).o) (h_v : (g' i).v = (g i).v) (h_w : (g' i).w = (g i).w) (h_d : (g' i).d = (g i).d) : g_up (ov κ ar x (S.sfr g) G) (x.f (.ft i)) c = ov κ ar x (S.sfr g') G := by
  refine ov_w (t := .ft i) hv h rfl hc (fun t' q => ?_)
  rcases t' with j | j | j | j | j | j
  · rfl
  · rfl
  · rcases j with j | j | j | j
    · by_cases hj : j = i
      · subst hj
        show (.inr (7, [.ref (x.f (.fa j)), .ref (x.f (.ft j)), .ref (x.f (.fp j)), va_rf ((g' j).o.map (fun k9 => x.f (.to k9))), .long (g' j).v, .int (g' j).w, .int (g' j).d]) : va_E) = .inr (7, [.ref (x.f (.fa j)), .ref (x.f (.ft j)), .ref (x.f (.fp j)), va_rf ((g j).o.map (fun k9 => x.f (.to k9))), .long (g j).v, .int (g j).w, .int (g j).d])
        rw [h_o, h_v, h_w, h_d]
      · show (.inr (7, [.ref (x.f (.fa j)), .ref (x.f (.ft j)), .ref (x.f (.fp j)), va_rf ((g' j).o.map (fun k9 => x.f (.to k9))), .long (g' j).v, .int (g' j).w, .int (g' j).d]) : va_E) = .inr (7, [.ref (x.f (.fa j)), .ref (x.f (.ft j)), .ref (x.f (.fp j)), va_rf ((g j).o.map (fun k9 => x.f (.to k9))), .long (g j).v, .int (g j).w, .int (g j).d])
        rw [hg j hj]
    · by_cases hj : j = i
      · subst hj
        show (.inl (ar 1, 2, .inr (.inl (g' j).a)) : va_E) = .inl (ar 1, 2, .inr (.inl (g j).a))
        rw [h_a]
      · show (.inl (ar 1, 2, .inr (.inl (g' j).a)) : va_E) = .inl (ar 1, 2, .inr (.inl (g j).a))
        rw [hg j hj]
    · by_cases hj : j = i
      · subst hj
        exact absurd rfl q
      · show (.inl (ar 1, 4, .inr (.inl (g' j).t)) : va_E) = .inl (ar 1, 4, .inr (.inl (g j).t))
        rw [hg j hj]
    · by_cases hj : j = i
      · subst hj
        show (.inl (ar 1, 8, .inr (.inl (g' j).p)) : va_E) = .inl (ar 1, 8, .inr (.inl (g j).p))
        rw [h_p]
      · show (.inl (ar 1, 8, .inr (.inl (g' j).p)) : va_E) = .inl (ar 1, 8, .inr (.inl (g j).p))
        rw [hg j hj]
  · rfl
  · rfl
  · rfl
theorem ov_wft {i : Fin 12} {v v' : Fr} (hv : ∀ a t, x.b a = some t → x.a t = a) (h : x.b (x.a (.ft i)) = some (.ft i)) (hc : c = .inl (ar 1, 4, .inr (.inl v'.t))) (h_a : v'.a = v.a) (h_p : v'.p = v.p) (h_o : v'.o = v.o) (h_v : v'.v = v.v) (h_w : v'.w = v.w) (h_d : v'.d = v.d) : g_up (ov κ ar x (S.frS i v) G) (x.f (.ft i)) c = ov κ ar x (S.frS i v') G :=
  ov_wft0 (g := updF S.fr i v) (g' := updF S.fr i v') hv h (fun j hj => by rw [updF_o hj, updF_o hj]) (by rw [updF_s]; exact hc) (by rw [updF_s, updF_s]; exact h_a) (by rw [updF_s, updF_s]; exact h_p) (by rw [updF_s, updF_s]; exact h_o) (by rw [updF_s, updF_s]; exact h_v) (by rw [updF_s, updF_s]; exact h_w) (by rw [updF_s, updF_s]; exact h_d)
theorem ov_wfp0 {i : Fin 12} {g g' : Fin 12 → Fr} (hv : ∀ a t, x.b a = some t → x.a t = a) (h : x.b (x.a (.fp i)) = some (.fp i)) (hg : ∀ j, j ≠ i → g' j = g j) (hc : c = .inl (ar 1, 8, .inr (.inl (g' i).p))) (h_a : (g' i).a = (g i).a) (h_t : (g' i).t = (g i).t) (h_o : (g' i).o = (g i).o) (h_v : (g' i).v = (g i).v) (h_w : (g' i).w = (g i).w) (h_d : (g' i).d = (g i).d) : g_up (ov κ ar x (S.sfr g) G) (x.f (.fp i)) c = ov κ ar x (S.sfr g') G := by
  refine ov_w (t := .fp i) hv h rfl hc (fun t' q => ?_)
  rcases t' with j | j | j | j | j | j
  · rfl
  · rfl
  · rcases j with j | j | j | j
    · by_cases hj : j = i
      · subst hj
        show (.inr (7, [.ref (x.f (.fa j)), .ref (x.f (.ft j)), .ref (x.f (.fp j)), va_rf ((g' j).o.map (fun k9 => x.f (.to k9))), .long (g' j).v, .int (g' j).w, .int (g' j).d]) : va_E) = .inr (7, [.ref (x.f (.fa j)), .ref (x.f (.ft j)), .ref (x.f (.fp j)), va_rf ((g j).o.map (fun k9 => x.f (.to k9))), .long (g j).v, .int (g j).w, .int (g j).d])
        rw [h_o, h_v, h_w, h_d]
      · show (.inr (7, [.ref (x.f (.fa j)), .ref (x.f (.ft j)), .ref (x.f (.fp j)), va_rf ((g' j).o.map (fun k9 => x.f (.to k9))), .long (g' j).v, .int (g' j).w, .int (g' j).d]) : va_E) = .inr (7, [.ref (x.f (.fa j)), .ref (x.f (.ft j)), .ref (x.f (.fp j)), va_rf ((g j).o.map (fun k9 => x.f (.to k9))), .long (g j).v, .int (g j).w, .int (g j).d])
        rw [hg j hj]
    · by_cases hj : j = i
      · subst hj
        show (.inl (ar 1, 2, .inr (.inl (g' j).a)) : va_E) = .inl (ar 1, 2, .inr (.inl (g j).a))
        rw [h_a]
      · show (.inl (ar 1, 2, .inr (.inl (g' j).a)) : va_E) = .inl (ar 1, 2, .inr (.inl (g j).a))
        rw [hg j hj]
    · by_cases hj : j = i
      · subst hj
        show (.inl (ar 1, 4, .inr (.inl (g' j).t)) : va_E) = .inl (ar 1, 4, .inr (.inl (g j).t))
        rw [h_t]
      · show (.inl (ar 1, 4, .inr (.inl (g' j).t)) : va_E) = .inl (ar 1, 4, .inr (.inl (g j).t))
        rw [hg j hj]
    · by_cases hj : j = i
      · subst hj
        exact absurd rfl q
      · show (.inl (ar 1, 8, .inr (.inl (g' j).p)) : va_E) = .inl (ar 1, 8, .inr (.inl (g j).p))
        rw [hg j hj]
  · rfl
  · rfl
  · rfl
theorem ov_wfp {i : Fin 12} {v v' : Fr} (hv : ∀ a t, x.b a = some t → x.a t = a) (h : x.b (x.a (.fp i)) = some (.fp i)) (hc : c = .inl (ar 1, 8, .inr (.inl v'.p))) (h_a : v'.a = v.a) (h_t : v'.t = v.t) (h_o : v'.o = v.o) (h_v : v'.v = v.v) (h_w : v'.w = v.w) (h_d : v'.d = v.d) : g_up (ov κ ar x (S.frS i v) G) (x.f (.fp i)) c = ov κ ar x (S.frS i v') G :=
  ov_wfp0 (g := updF S.fr i v) (g' := updF S.fr i v') hv h (fun j hj => by rw [updF_o hj, updF_o hj]) (by rw [updF_s]; exact hc) (by rw [updF_s, updF_s]; exact h_a) (by rw [updF_s, updF_s]; exact h_t) (by rw [updF_s, updF_s]; exact h_o) (by rw [updF_s, updF_s]; exact h_v) (by rw [updF_s, updF_s]; exact h_w) (by rw [updF_s, updF_s]; exact h_d)
theorem ov_rth {i : Fin 60} {v : Th} (h : x.b (x.a (.th i)) = some (.th i)) : ov κ ar x (S.thS i v) G (x.f (.th i)) = some (.inr (10, [.ref (x.f (.tp i)), .int v.n, .int v.c, .int v.z, .int v.r])) := by
  refine (ov_r (t := .th i) h).trans ?_
  show some (.inr (10, [.ref (x.f (.tp i)), .int ((S.thS i v).th i).n, .int ((S.thS i v).th i).c, .int ((S.thS i v).th i).z, .int ((S.thS i v).th i).r]) : va_E) = _
  rw [thS_s]
theorem ov_rtp {i : Fin 60} {v : Th} (h : x.b (x.a (.tp i)) = some (.tp i)) : ov κ ar x (S.thS i v) G (x.f (.tp i)) = some (.inl (ar 1, 8, .inr (.inl v.p))) := by
  refine (ov_r (t := .tp i) h).trans ?_
  show some (.inl (ar 1, 8, .inr (.inl ((S.thS i v).th i).p)) : va_E) = _
  rw [thS_s]
theorem ov_wth0 {i : Fin 60} {g g' : Fin 60 → Th} (hv : ∀ a t, x.b a = some t → x.a t = a) (h : x.b (x.a (.th i)) = some (.th i)) (hg : ∀ j, j ≠ i → g' j = g j) (hc : c = .inr (10, [.ref (x.f (.tp i)), .int (g' i).n, .int (g' i).c, .int (g' i).z, .int (g' i).r])) (h_p : (g' i).p = (g i).p) : g_up (ov κ ar x (S.sth g) G) (x.f (.th i)) c = ov κ ar x (S.sth g') G := by
  refine ov_w (t := .th i) hv h rfl hc (fun t' q => ?_)
  rcases t' with j | j | j | j | j | j
  · rfl
  · rcases j with j | j
    · by_cases hj : j = i
      · subst hj
        exact absurd rfl q
      · show (.inr (10, [.ref (x.f (.tp j)), .int (g' j).n, .int (g' j).c, .int (g' j).z, .int (g' j).r]) : va_E) = .inr (10, [.ref (x.f (.tp j)), .int (g j).n, .int (g j).c, .int (g j).z, .int (g j).r])
        rw [hg j hj]
    · by_cases hj : j = i
      · subst hj
        show (.inl (ar 1, 8, .inr (.inl (g' j).p)) : va_E) = .inl (ar 1, 8, .inr (.inl (g j).p))
        rw [h_p]
      · show (.inl (ar 1, 8, .inr (.inl (g' j).p)) : va_E) = .inl (ar 1, 8, .inr (.inl (g j).p))
        rw [hg j hj]
  · rfl
  · rfl
  · rfl
  · rfl
theorem ov_wth {i : Fin 60} {v v' : Th} (hv : ∀ a t, x.b a = some t → x.a t = a) (h : x.b (x.a (.th i)) = some (.th i)) (hc : c = .inr (10, [.ref (x.f (.tp i)), .int v'.n, .int v'.c, .int v'.z, .int v'.r])) (h_p : v'.p = v.p) : g_up (ov κ ar x (S.thS i v) G) (x.f (.th i)) c = ov κ ar x (S.thS i v') G :=
  ov_wth0 (g := updF S.th i v) (g' := updF S.th i v') hv h (fun j hj => by rw [updF_o hj, updF_o hj]) (by rw [updF_s]; exact hc) (by rw [updF_s, updF_s]; exact h_p)
theorem ov_wtp0 {i : Fin 60} {g g' : Fin 60 → Th} (hv : ∀ a t, x.b a = some t → x.a t = a) (h : x.b (x.a (.tp i)) = some (.tp i)) (hg : ∀ j, j ≠ i → g' j = g j) (hc : c = .inl (ar 1, 8, .inr (.inl (g' i).p))) (h_n : (g' i).n = (g i).n) (h_c : (g' i).c = (g i).c) (h_z : (g' i).z = (g i).z) (h_r : (g' i).r = (g i).r) : g_up (ov κ ar x (S.sth g) G) (x.f (.tp i)) c = ov κ ar x (S.sth g') G := by
  refine ov_w (t := .tp i) hv h rfl hc (fun t' q => ?_)
  rcases t' with j | j | j | j | j | j
  · rfl
  · rcases j with j | j
    · by_cases hj : j = i
      · subst hj
        show (.inr (10, [.ref (x.f (.tp j)), .int (g' j).n, .int (g' j).c, .int (g' j).z, .int (g' j).r]) : va_E) = .inr (10, [.ref (x.f (.tp j)), .int (g j).n, .int (g j).c, .int (g j).z, .int (g j).r])
        rw [h_n, h_c, h_z, h_r]
      · show (.inr (10, [.ref (x.f (.tp j)), .int (g' j).n, .int (g' j).c, .int (g' j).z, .int (g' j).r]) : va_E) = .inr (10, [.ref (x.f (.tp j)), .int (g j).n, .int (g j).c, .int (g j).z, .int (g j).r])
        rw [hg j hj]
    · by_cases hj : j = i
      · subst hj
        exact absurd rfl q
      · show (.inl (ar 1, 8, .inr (.inl (g' j).p)) : va_E) = .inl (ar 1, 8, .inr (.inl (g j).p))
        rw [hg j hj]
  · rfl
  · rfl
  · rfl
  · rfl
theorem ov_wtp {i : Fin 60} {v v' : Th} (hv : ∀ a t, x.b a = some t → x.a t = a) (h : x.b (x.a (.tp i)) = some (.tp i)) (hc : c = .inl (ar 1, 8, .inr (.inl v'.p))) (h_n : v'.n = v.n) (h_c : v'.c = v.c) (h_z : v'.z = v.z) (h_r : v'.r = v.r) : g_up (ov κ ar x (S.thS i v) G) (x.f (.tp i)) c = ov κ ar x (S.thS i v') G :=
  ov_wtp0 (g := updF S.th i v) (g' := updF S.th i v') hv h (fun j hj => by rw [updF_o hj, updF_o hj]) (by rw [updF_s]; exact hc) (by rw [updF_s, updF_s]; exact h_n) (by rw [updF_s, updF_s]; exact h_c) (by rw [updF_s, updF_s]; exact h_z) (by rw [updF_s, updF_s]; exact h_r)
theorem ov_rto {i : Nat} {v : To} (h : x.b (x.a (.to i)) = some (.to i)) : ov κ ar x (S.toS i v) G (x.f (.to i)) = some (.inr (12, [.int v.c, .int v.s, .int v.a, .int v.t, .ref (x.f (.ro v.q)), .int v.n, .int (x.cm i)])) := by
  refine (ov_r (t := .to i) h).trans ?_
  show some (.inr (12, [.int ((S.toS i v).to i).c, .int ((S.toS i v).to i).s, .int ((S.toS i v).to i).a, .int ((S.toS i v).to i).t, .ref (x.f (.ro ((S.toS i v).to i).q)), .int ((S.toS i v).to i).n, .int (x.cm i)]) : va_E) = _
  rw [toS_s]
theorem ov_wto0 {i : Nat} {g g' : Nat → To} (hv : ∀ a t, x.b a = some t → x.a t = a) (h : x.b (x.a (.to i)) = some (.to i)) (hg : ∀ j, j ≠ i → g' j = g j) (hc : c = .inr (12, [.int (g' i).c, .int (g' i).s, .int (g' i).a, .int (g' i).t, .ref (x.f (.ro (g' i).q)), .int (g' i).n, .int (x.cm i)])) : g_up (ov κ ar x (S.sto g) G) (x.f (.to i)) c = ov κ ar x (S.sto g') G := by
  refine ov_w (t := .to i) hv h rfl hc (fun t' q => ?_)
  rcases t' with j | j | j | j | j | j
  · rfl
  · rfl
  · rfl
  · by_cases hj : j = i
    · subst hj
      exact absurd rfl q
    · show (.inr (12, [.int (g' j).c, .int (g' j).s, .int (g' j).a, .int (g' j).t, .ref (x.f (.ro (g' j).q)), .int (g' j).n, .int (x.cm j)]) : va_E) = .inr (12, [.int (g j).c, .int (g j).s, .int (g j).a, .int (g j).t, .ref (x.f (.ro (g j).q)), .int (g j).n, .int (x.cm j)])
      rw [hg j hj]
  · rfl
  · rfl
theorem ov_wto {i : Nat} {v v' : To} (hv : ∀ a t, x.b a = some t → x.a t = a) (h : x.b (x.a (.to i)) = some (.to i)) (hc : c = .inr (12, [.int v'.c, .int v'.s, .int v'.a, .int v'.t, .ref (x.f (.ro v'.q)), .int v'.n, .int (x.cm i)])) : g_up (ov κ ar x (S.toS i v) G) (x.f (.to i)) c = ov κ ar x (S.toS i v') G :=
  ov_wto0 (g := updN S.to i v) (g' := updN S.to i v') hv h (fun j hj => by rw [updN_o hj, updN_o hj]) (by rw [updN_s]; exact hc) 
theorem ov_rro {i : Nat} {v : Ro} (h : x.b (x.a (.ro i)) = some (.ro i)) : ov κ ar x (S.roS i v) G (x.f (.ro i)) = some (.inr (9, [.ref (x.f (.rl i)), .ref (x.f (.rf i)), .ref (x.f (.rg i)), .ref (x.f (.rd i)), .ref (x.f (.rq i)), .int v.n, .int v.k])) := by
  refine (ov_r (t := .ro i) h).trans ?_
  show some (.inr (9, [.ref (x.f (.rl i)), .ref (x.f (.rf i)), .ref (x.f (.rg i)), .ref (x.f (.rd i)), .ref (x.f (.rq i)), .int ((S.roS i v).ro i).n, .int ((S.roS i v).ro i).k]) : va_E) = _
  rw [roS_s]
theorem ov_rrl {i : Nat} {v : Ro} (h : x.b (x.a (.rl i)) = some (.rl i)) : ov κ ar x (S.roS i v) G (x.f (.rl i)) = some (.inl (ar 2, 24, .inl v.l)) := by
  refine (ov_r (t := .rl i) h).trans ?_
  show some (.inl (ar 2, 24, .inl ((S.roS i v).ro i).l) : va_E) = _
  rw [roS_s]
theorem ov_rrf {i : Nat} {v : Ro} (h : x.b (x.a (.rf i)) = some (.rf i)) : ov κ ar x (S.roS i v) G (x.f (.rf i)) = some (.inl (ar 0, 24, .inl v.f)) := by
  refine (ov_r (t := .rf i) h).trans ?_
  show some (.inl (ar 0, 24, .inl ((S.roS i v).ro i).f) : va_E) = _
  rw [roS_s]
theorem ov_rrg {i : Nat} {v : Ro} (h : x.b (x.a (.rg i)) = some (.rg i)) : ov κ ar x (S.roS i v) G (x.f (.rg i)) = some (.inl (ar 0, 24, .inl v.g)) := by
  refine (ov_r (t := .rg i) h).trans ?_
  show some (.inl (ar 0, 24, .inl ((S.roS i v).ro i).g) : va_E) = _
  rw [roS_s]
theorem ov_rrd {i : Nat} {v : Ro} (h : x.b (x.a (.rd i)) = some (.rd i)) : ov κ ar x (S.roS i v) G (x.f (.rd i)) = some (.inl (ar 0, 24, .inl v.d)) := by
  refine (ov_r (t := .rd i) h).trans ?_
  show some (.inl (ar 0, 24, .inl ((S.roS i v).ro i).d) : va_E) = _
  rw [roS_s]
theorem ov_rrq {i : Nat} {v : Ro} (h : x.b (x.a (.rq i)) = some (.rq i)) : ov κ ar x (S.roS i v) G (x.f (.rq i)) = some (.inl (ar 0, 24, .inl v.q)) := by
  refine (ov_r (t := .rq i) h).trans ?_
  show some (.inl (ar 0, 24, .inl ((S.roS i v).ro i).q) : va_E) = _
  rw [roS_s]
theorem ov_wro0 {i : Nat} {g g' : Nat → Ro} (hv : ∀ a t, x.b a = some t → x.a t = a) (h : x.b (x.a (.ro i)) = some (.ro i)) (hg : ∀ j, j ≠ i → g' j = g j) (hc : c = .inr (9, [.ref (x.f (.rl i)), .ref (x.f (.rf i)), .ref (x.f (.rg i)), .ref (x.f (.rd i)), .ref (x.f (.rq i)), .int (g' i).n, .int (g' i).k])) (h_l : (g' i).l = (g i).l) (h_f : (g' i).f = (g i).f) (h_g : (g' i).g = (g i).g) (h_d : (g' i).d = (g i).d) (h_q : (g' i).q = (g i).q) : g_up (ov κ ar x (S.sro g) G) (x.f (.ro i)) c = ov κ ar x (S.sro g') G := by
  refine ov_w (t := .ro i) hv h rfl hc (fun t' q => ?_)
  rcases t' with j | j | j | j | j | j
  · rfl
  · rfl
  · rfl
  · rfl
  · rcases j with j | j | j | j | j | j
    · by_cases hj : j = i
      · subst hj
        exact absurd rfl q
      · show (.inr (9, [.ref (x.f (.rl j)), .ref (x.f (.rf j)), .ref (x.f (.rg j)), .ref (x.f (.rd j)), .ref (x.f (.rq j)), .int (g' j).n, .int (g' j).k]) : va_E) = .inr (9, [.ref (x.f (.rl j)), .ref (x.f (.rf j)), .ref (x.f (.rg j)), .ref (x.f (.rd j)), .ref (x.f (.rq j)), .int (g j).n, .int (g j).k])
        rw [hg j hj]
    · by_cases hj : j = i
      · subst hj
        show (.inl (ar 2, 24, .inl (g' j).l) : va_E) = .inl (ar 2, 24, .inl (g j).l)
        rw [h_l]
      · show (.inl (ar 2, 24, .inl (g' j).l) : va_E) = .inl (ar 2, 24, .inl (g j).l)
        rw [hg j hj]
    · by_cases hj : j = i
      · subst hj
        show (.inl (ar 0, 24, .inl (g' j).f) : va_E) = .inl (ar 0, 24, .inl (g j).f)
        rw [h_f]
      · show (.inl (ar 0, 24, .inl (g' j).f) : va_E) = .inl (ar 0, 24, .inl (g j).f)
        rw [hg j hj]
    · by_cases hj : j = i
      · subst hj
        show (.inl (ar 0, 24, .inl (g' j).g) : va_E) = .inl (ar 0, 24, .inl (g j).g)
        rw [h_g]
      · show (.inl (ar 0, 24, .inl (g' j).g) : va_E) = .inl (ar 0, 24, .inl (g j).g)
        rw [hg j hj]
    · by_cases hj : j = i
      · subst hj
        show (.inl (ar 0, 24, .inl (g' j).d) : va_E) = .inl (ar 0, 24, .inl (g j).d)
        rw [h_d]
      · show (.inl (ar 0, 24, .inl (g' j).d) : va_E) = .inl (ar 0, 24, .inl (g j).d)
        rw [hg j hj]
    · by_cases hj : j = i
      · subst hj
        show (.inl (ar 0, 24, .inl (g' j).q) : va_E) = .inl (ar 0, 24, .inl (g j).q)
        rw [h_q]
      · show (.inl (ar 0, 24, .inl (g' j).q) : va_E) = .inl (ar 0, 24, .inl (g j).q)
        rw [hg j hj]
  · rfl
theorem ov_wro {i : Nat} {v v' : Ro} (hv : ∀ a t, x.b a = some t → x.a t = a) (h : x.b (x.a (.ro i)) = some (.ro i)) (hc : c = .inr (9, [.ref (x.f (.rl i)), .ref (x.f (.rf i)), .ref (x.f (.rg i)), .ref (x.f (.rd i)), .ref (x.f (.rq i)), .int v'.n, .int v'.k])) (h_l : v'.l = v.l) (h_f : v'.f = v.f) (h_g : v'.g = v.g) (h_d : v'.d = v.d) (h_q : v'.q = v.q) : g_up (ov κ ar x (S.roS i v) G) (x.f (.ro i)) c = ov κ ar x (S.roS i v') G :=
  ov_wro0 (g := updN S.ro i v) (g' := updN S.ro i v') hv h (fun j hj => by rw [updN_o hj, updN_o hj]) (by rw [updN_s]; exact hc) (by rw [updN_s, updN_s]; exact h_l) (by rw [updN_s, updN_s]; exact h_f) (by rw [updN_s, updN_s]; exact h_g) (by rw [updN_s, updN_s]; exact h_d) (by rw [updN_s, updN_s]; exact h_q)
theorem ov_wrl0 {i : Nat} {g g' : Nat → Ro} (hv : ∀ a t, x.b a = some t → x.a t = a) (h : x.b (x.a (.rl i)) = some (.rl i)) (hg : ∀ j, j ≠ i → g' j = g j) (hc : c = .inl (ar 2, 24, .inl (g' i).l)) (h_f : (g' i).f = (g i).f) (h_g : (g' i).g = (g i).g) (h_d : (g' i).d = (g i).d) (h_q : (g' i).q = (g i).q) (h_n : (g' i).n = (g i).n) (h_k : (g' i).k = (g i).k) : g_up (ov κ ar x (S.sro g) G) (x.f (.rl i)) c = ov κ ar x (S.sro g') G := by
  refine ov_w (t := .rl i) hv h rfl hc (fun t' q => ?_)
  rcases t' with j | j | j | j | j | j
  · rfl
  · rfl
  · rfl
  · rfl
  · rcases j with j | j | j | j | j | j
    · by_cases hj : j = i
      · subst hj
        show (.inr (9, [.ref (x.f (.rl j)), .ref (x.f (.rf j)), .ref (x.f (.rg j)), .ref (x.f (.rd j)), .ref (x.f (.rq j)), .int (g' j).n, .int (g' j).k]) : va_E) = .inr (9, [.ref (x.f (.rl j)), .ref (x.f (.rf j)), .ref (x.f (.rg j)), .ref (x.f (.rd j)), .ref (x.f (.rq j)), .int (g j).n, .int (g j).k])
        rw [h_n, h_k]
      · show (.inr (9, [.ref (x.f (.rl j)), .ref (x.f (.rf j)), .ref (x.f (.rg j)), .ref (x.f (.rd j)), .ref (x.f (.rq j)), .int (g' j).n, .int (g' j).k]) : va_E) = .inr (9, [.ref (x.f (.rl j)), .ref (x.f (.rf j)), .ref (x.f (.rg j)), .ref (x.f (.rd j)), .ref (x.f (.rq j)), .int (g j).n, .int (g j).k])
        rw [hg j hj]
    · by_cases hj : j = i
      · subst hj
        exact absurd rfl q
      · show (.inl (ar 2, 24, .inl (g' j).l) : va_E) = .inl (ar 2, 24, .inl (g j).l)
        rw [hg j hj]
    · by_cases hj : j = i
      · subst hj
        show (.inl (ar 0, 24, .inl (g' j).f) : va_E) = .inl (ar 0, 24, .inl (g j).f)
        rw [h_f]
      · show (.inl (ar 0, 24, .inl (g' j).f) : va_E) = .inl (ar 0, 24, .inl (g j).f)
        rw [hg j hj]
    · by_cases hj : j = i
      · subst hj
        show (.inl (ar 0, 24, .inl (g' j).g) : va_E) = .inl (ar 0, 24, .inl (g j).g)
        rw [h_g]
      · show (.inl (ar 0, 24, .inl (g' j).g) : va_E) = .inl (ar 0, 24, .inl (g j).g)
        rw [hg j hj]
    · by_cases hj : j = i
      · subst hj
        show (.inl (ar 0, 24, .inl (g' j).d) : va_E) = .inl (ar 0, 24, .inl (g j).d)
        rw [h_d]
      · show (.inl (ar 0, 24, .inl (g' j).d) : va_E) = .inl (ar 0, 24, .inl (g j).d)
        rw [hg j hj]
    · by_cases hj : j = i
      · subst hj
        show (.inl (ar 0, 24, .inl (g' j).q) : va_E) = .inl (ar 0, 24, .inl (g j).q)
        rw [h_q]
      · show (.inl (ar 0, 24, .inl (g' j).q) : va_E) = .inl (ar 0, 24, .inl (g j).q)
        rw [hg j hj]
  · rfl
theorem ov_wrl {i : Nat} {v v' : Ro} (hv : ∀ a t, x.b a = some t → x.a t = a) (h : x.b (x.a (.rl i)) = some (.rl i)) (hc : c = .inl (ar 2, 24, .inl v'.l)) (h_f : v'.f = v.f) (h_g : v'.g = v.g) (h_d : v'.d = v.d) (h_q : v'.q = v.q) (h_n : v'.n = v.n) (h_k : v'.k = v.k) : g_up (ov κ ar x (S.roS i v) G) (x.f (.rl i)) c = ov κ ar x (S.roS i v') G :=
  ov_wrl0 (g := updN S.ro i v) (g' := updN S.ro i v') hv h (fun j hj => by rw [updN_o hj, updN_o hj]) (by rw [updN_s]; exact hc) (by rw [updN_s, updN_s]; exact h_f) (by rw [updN_s, updN_s]; exact h_g) (by rw [updN_s, updN_s]; exact h_d) (by rw [updN_s, updN_s]; exact h_q) (by rw [updN_s, updN_s]; exact h_n) (by rw [updN_s, updN_s]; exact h_k)
theorem ov_wrf0 {i : Nat} {g g' : Nat → Ro} (hv : ∀ a t, x.b a = some t → x.a t = a) (h : x.b (x.a (.rf i)) = some (.rf i)) (hg : ∀ j, j ≠ i → g' j = g j) (hc : c = .inl (ar 0, 24, .inl (g' i).f)) (h_l : (g' i).l = (g i).l) (h_g : (g' i).g = (g i).g) (h_d : (g' i).d = (g i).d) (h_q : (g' i).q = (g i).q) (h_n : (g' i).n = (g i).n) (h_k : (g' i).k = (g i).k) : g_up (ov κ ar x (S.sro g) G) (x.f (.rf i)) c = ov κ ar x (S.sro g') G := by
  refine ov_w (t := .rf i) hv h rfl hc (fun t' q => ?_)
  rcases t' with j | j | j | j | j | j
  · rfl
  · rfl
  · rfl
  · rfl
  · rcases j with j | j | j | j | j | j
    · by_cases hj : j = i
      · subst hj
        show (.inr (9, [.ref (x.f (.rl j)), .ref (x.f (.rf j)), .ref (x.f (.rg j)), .ref (x.f (.rd j)), .ref (x.f (.rq j)), .int (g' j).n, .int (g' j).k]) : va_E) = .inr (9, [.ref (x.f (.rl j)), .ref (x.f (.rf j)), .ref (x.f (.rg j)), .ref (x.f (.rd j)), .ref (x.f (.rq j)), .int (g j).n, .int (g j).k])
        rw [h_n, h_k]
      · show (.inr (9, [.ref (x.f (.rl j)), .ref (x.f (.rf j)), .ref (x.f (.rg j)), .ref (x.f (.rd j)), .ref (x.f (.rq j)), .int (g' j).n, .int (g' j).k]) : va_E) = .inr (9, [.ref (x.f (.rl j)), .ref (x.f (.rf j)), .ref (x.f (.rg j)), .ref (x.f (.rd j)), .ref (x.f (.rq j)), .int (g j).n, .int (g j).k])
        rw [hg j hj]
    · by_cases hj : j = i
      · subst hj
        show (.inl (ar 2, 24, .inl (g' j).l) : va_E) = .inl (ar 2, 24, .inl (g j).l)
        rw [h_l]
      · show (.inl (ar 2, 24, .inl (g' j).l) : va_E) = .inl (ar 2, 24, .inl (g j).l)
        rw [hg j hj]
    · by_cases hj : j = i
      · subst hj
        exact absurd rfl q
      · show (.inl (ar 0, 24, .inl (g' j).f) : va_E) = .inl (ar 0, 24, .inl (g j).f)
        rw [hg j hj]
    · by_cases hj : j = i
      · subst hj
        show (.inl (ar 0, 24, .inl (g' j).g) : va_E) = .inl (ar 0, 24, .inl (g j).g)
        rw [h_g]
      · show (.inl (ar 0, 24, .inl (g' j).g) : va_E) = .inl (ar 0, 24, .inl (g j).g)
        rw [hg j hj]
    · by_cases hj : j = i
      · subst hj
        show (.inl (ar 0, 24, .inl (g' j).d) : va_E) = .inl (ar 0, 24, .inl (g j).d)
        rw [h_d]
      · show (.inl (ar 0, 24, .inl (g' j).d) : va_E) = .inl (ar 0, 24, .inl (g j).d)
        rw [hg j hj]
    · by_cases hj : j = i
      · subst hj
        show (.inl (ar 0, 24, .inl (g' j).q) : va_E) = .inl (ar 0, 24, .inl (g j).q)
        rw [h_q]
      · show (.inl (ar 0, 24, .inl (g' j).q) : va_E) = .inl (ar 0, 24, .inl (g j).q)
        rw [hg j hj]
  · rfl
theorem ov_wrf {i : Nat} {v v' : Ro} (hv : ∀ a t, x.b a = some t → x.a t = a) (h : x.b (x.a (.rf i)) = some (.rf i)) (hc : c = .inl (ar 0, 24, .inl v'.f)) (h_l : v'.l = v.l) (h_g : v'.g = v.g) (h_d : v'.d = v.d) (h_q : v'.q = v.q) (h_n : v'.n = v.n) (h_k : v'.k = v.k) : g_up (ov κ ar x (S.roS i v) G) (x.f (.rf i)) c = ov κ ar x (S.roS i v') G :=
  ov_wrf0 (g := updN S.ro i v) (g' := updN S.ro i v') hv h (fun j hj => by rw [updN_o hj, updN_o hj]) (by rw [updN_s]; exact hc) (by rw [updN_s, updN_s]; exact h_l) (by rw [updN_s, updN_s]; exact h_g) (by rw [updN_s, updN_s]; exact h_d) (by rw [updN_s, updN_s]; exact h_q) (by rw [updN_s, updN_s]; exact h_n) (by rw [updN_s, updN_s]; exact h_k)
theorem ov_wrg0 {i : Nat} {g g' : Nat → Ro} (hv : ∀ a t, x.b a = some t → x.a t = a) (h : x.b (x.a (.rg i)) = some (.rg i)) (hg : ∀ j, j ≠ i → g' j = g j) (hc : c = .inl (ar 0, 24, .inl (g' i).g)) (h_l : (g' i).l = (g i).l) (h_f : (g' i).f = (g i).f) (h_d : (g' i).d = (g i).d) (h_q : (g' i).q = (g i).q) (h_n : (g' i).n = (g i).n) (h_k : (g' i).k = (g i).k) : g_up (ov κ ar x (S.sro g) G) (x.f (.rg i)) c = ov κ ar x (S.sro g') G := by
  refine ov_w (t := .rg i) hv h rfl hc (fun t' q => ?_)
  rcases t' with j | j | j | j | j | j
  · rfl
  · rfl
  · rfl
  · rfl
  · rcases j with j | j | j | j | j | j
    · by_cases hj : j = i
      · subst hj
        show (.inr (9, [.ref (x.f (.rl j)), .ref (x.f (.rf j)), .ref (x.f (.rg j)), .ref (x.f (.rd j)), .ref (x.f (.rq j)), .int (g' j).n, .int (g' j).k]) : va_E) = .inr (9, [.ref (x.f (.rl j)), .ref (x.f (.rf j)), .ref (x.f (.rg j)), .ref (x.f (.rd j)), .ref (x.f (.rq j)), .int (g j).n, .int (g j).k])
        rw [h_n, h_k]
      · show (.inr (9, [.ref (x.f (.rl j)), .ref (x.f (.rf j)), .ref (x.f (.rg j)), .ref (x.f (.rd j)), .ref (x.f (.rq j)), .int (g' j).n, .int (g' j).k]) : va_E) = .inr (9, [.ref (x.f (.rl j)), .ref (x.f (.rf j)), .ref (x.f (.rg j)), .ref (x.f (.rd j)), .ref (x.f (.rq j)), .int (g j).n, .int (g j).k])
        rw [hg j hj]
    · by_cases hj : j = i
      · subst hj
        show (.inl (ar 2, 24, .inl (g' j).l) : va_E) = .inl (ar 2, 24, .inl (g j).l)
        rw [h_l]
      · show (.inl (ar 2, 24, .inl (g' j).l) : va_E) = .inl (ar 2, 24, .inl (g j).l)
        rw [hg j hj]
    · by_cases hj : j = i
      · subst hj
        show (.inl (ar 0, 24, .inl (g' j).f) : va_E) = .inl (ar 0, 24, .inl (g j).f)
        rw [h_f]
      · show (.inl (ar 0, 24, .inl (g' j).f) : va_E) = .inl (ar 0, 24, .inl (g j).f)
        rw [hg j hj]
    · by_cases hj : j = i
      · subst hj
        exact absurd rfl q
      · show (.inl (ar 0, 24, .inl (g' j).g) : va_E) = .inl (ar 0, 24, .inl (g j).g)
        rw [hg j hj]
    · by_cases hj : j = i
      · subst hj
        show (.inl (ar 0, 24, .inl (g' j).d) : va_E) = .inl (ar 0, 24, .inl (g j).d)
        rw [h_d]
      · show (.inl (ar 0, 24, .inl (g' j).d) : va_E) = .inl (ar 0, 24, .inl (g j).d)
        rw [hg j hj]
    · by_cases hj : j = i
      · subst hj
        show (.inl (ar 0, 24, .inl (g' j).q) : va_E) = .inl (ar 0, 24, .inl (g j).q)
        rw [h_q]
      · show (.inl (ar 0, 24, .inl (g' j).q) : va_E) = .inl (ar 0, 24, .inl (g j).q)
        rw [hg j hj]
  · rfl
theorem ov_wrg {i : Nat} {v v' : Ro} (hv : ∀ a t, x.b a = some t → x.a t = a) (h : x.b (x.a (.rg i)) = some (.rg i)) (hc : c = .inl (ar 0, 24, .inl v'.g)) (h_l : v'.l = v.l) (h_f : v'.f = v.f) (h_d : v'.d = v.d) (h_q : v'.q = v.q) (h_n : v'.n = v.n) (h_k : v'.k = v.k) : g_up (ov κ ar x (S.roS i v) G) (x.f (.rg i)) c = ov κ ar x (S.roS i v') G :=
  ov_wrg0 (g := updN S.ro i v) (g' := updN S.ro i v') hv h (fun j hj => by rw [updN_o hj, updN_o hj]) (by rw [updN_s]; exact hc) (by rw [updN_s, updN_s]; exact h_l) (by rw [updN_s, updN_s]; exact h_f) (by rw [updN_s, updN_s]; exact h_d) (by rw [updN_s, updN_s]; exact h_q) (by rw [updN_s, updN_s]; exact h_n) (by rw [updN_s, updN_s]; exact h_k)
theorem ov_wrd0 {i : Nat} {g g' : Nat → Ro} (hv : ∀ a t, x.b a = some t → x.a t = a) (h : x.b (x.a (.rd i)) = some (.rd i)) (hg : ∀ j, j ≠ i → g' j = g j) (hc : c = .inl (ar 0, 24, .inl (g' i).d)) (h_l : (g' i).l = (g i).l) (h_f : (g' i).f = (g i).f) (h_g : (g' i).g = (g i).g) (h_q : (g' i).q = (g i).q) (h_n : (g' i).n = (g i).n) (h_k : (g' i).k = (g i).k) : g_up (ov κ ar x (S.sro g) G) (x.f (.rd i)) c = ov κ ar x (S.sro g') G := by
  refine ov_w (t := .rd i) hv h rfl hc (fun t' q => ?_)
  rcases t' with j | j | j | j | j | j
  · rfl
  · rfl
  · rfl
  · rfl
  · rcases j with j | j | j | j | j | j
    · by_cases hj : j = i
      · subst hj
        show (.inr (9, [.ref (x.f (.rl j)), .ref (x.f (.rf j)), .ref (x.f (.rg j)), .ref (x.f (.rd j)), .ref (x.f (.rq j)), .int (g' j).n, .int (g' j).k]) : va_E) = .inr (9, [.ref (x.f (.rl j)), .ref (x.f (.rf j)), .ref (x.f (.rg j)), .ref (x.f (.rd j)), .ref (x.f (.rq j)), .int (g j).n, .int (g j).k])
        rw [h_n, h_k]
      · show (.inr (9, [.ref (x.f (.rl j)), .ref (x.f (.rf j)), .ref (x.f (.rg j)), .ref (x.f (.rd j)), .ref (x.f (.rq j)), .int (g' j).n, .int (g' j).k]) : va_E) = .inr (9, [.ref (x.f (.rl j)), .ref (x.f (.rf j)), .ref (x.f (.rg j)), .ref (x.f (.rd j)), .ref (x.f (.rq j)), .int (g j).n, .int (g j).k])
        rw [hg j hj]
    · by_cases hj : j = i
      · subst hj
        show (.inl (ar 2, 24, .inl (g' j).l) : va_E) = .inl (ar 2, 24, .inl (g j).l)
        rw [h_l]
      · show (.inl (ar 2, 24, .inl (g' j).l) : va_E) = .inl (ar 2, 24, .inl (g j).l)
        rw [hg j hj]
    · by_cases hj : j = i
      · subst hj
        show (.inl (ar 0, 24, .inl (g' j).f) : va_E) = .inl (ar 0, 24, .inl (g j).f)
        rw [h_f]
      · show (.inl (ar 0, 24, .inl (g' j).f) : va_E) = .inl (ar 0, 24, .inl (g j).f)
        rw [hg j hj]
    · by_cases hj : j = i
      · subst hj
        show (.inl (ar 0, 24, .inl (g' j).g) : va_E) = .inl (ar 0, 24, .inl (g j).g)
        rw [h_g]
      · show (.inl (ar 0, 24, .inl (g' j).g) : va_E) = .inl (ar 0, 24, .inl (g j).g)
        rw [hg j hj]
    · by_cases hj : j = i
      · subst hj
        exact absurd rfl q
      · show (.inl (ar 0, 24, .inl (g' j).d) : va_E) = .inl (ar 0, 24, .inl (g j).d)
        rw [hg j hj]
    · by_cases hj : j = i
      · subst hj
        show (.inl (ar 0, 24, .inl (g' j).q) : va_E) = .inl (ar 0, 24, .inl (g j).q)
        rw [h_q]
      · show (.inl (ar 0, 24, .inl (g' j).q) : va_E) = .inl (ar 0, 24, .inl (g j).q)
        rw [hg j hj]
  · rfl
theorem ov_wrd {i : Nat} {v v' : Ro} (hv : ∀ a t, x.b a = some t → x.a t = a) (h : x.b (x.a (.rd i)) = some (.rd i)) (hc : c = .inl (ar 0, 24, .inl v'.d)) (h_l : v'.l = v.l) (h_f : v'.f = v.f) (h_g : v'.g = v.g) (h_q : v'.q = v.q) (h_n : v'.n = v.n) (h_k : v'.k = v.k) : g_up (ov κ ar x (S.roS i v) G) (x.f (.rd i)) c = ov κ ar x (S.roS i v') G :=
  ov_wrd0 (g := updN S.ro i v) (g' := updN S.ro i v') hv h (fun j hj => by rw [updN_o hj, updN_o hj]) (by rw [updN_s]; exact hc) (by rw [updN_s, updN_s]; exact h_l) (by rw [updN_s, updN_s]; exact h_f) (by rw [updN_s, updN_s]; exact h_g) (by rw [updN_s, updN_s]; exact h_q) (by rw [updN_s, updN_s]; exact h_n) (by rw [updN_s, updN_s]; exact h_k)
theorem ov_wrq0 {i : Nat} {g g' : Nat → Ro} (hv : ∀ a t, x.b a = some t → x.a t = a) (h : x.b (x.a (.rq i)) = some (.rq i)) (hg : ∀ j, j ≠ i → g' j = g j) (hc : c = .inl (ar 0, 24, .inl (g' i).q)) (h_l : (g' i).l = (g i).l) (h_f : (g' i).f = (g i).f) (h_g : (g' i).g = (g i).g) (h_d : (g' i).d = (g i).d) (h_n : (g' i).n = (g i).n) (h_k : (g' i).k = (g i).k) : g_up (ov κ ar x (S.sro g) G) (x.f (.rq i)) c = ov κ ar x (S.sro g') G := by
  refine ov_w (t := .rq i) hv h rfl hc (fun t' q => ?_)
  rcases t' with j | j | j | j | j | j
  · rfl
  · rfl
  · rfl
  · rfl
  · rcases j with j | j | j | j | j | j
    · by_cases hj : j = i
      · subst hj
        show (.inr (9, [.ref (x.f (.rl j)), .ref (x.f (.rf j)), .ref (x.f (.rg j)), .ref (x.f (.rd j)), .ref (x.f (.rq j)), .int (g' j).n, .int (g' j).k]) : va_E) = .inr (9, [.ref (x.f (.rl j)), .ref (x.f (.rf j)), .ref (x.f (.rg j)), .ref (x.f (.rd j)), .ref (x.f (.rq j)), .int (g j).n, .int (g j).k])
        rw [h_n, h_k]
      · show (.inr (9, [.ref (x.f (.rl j)), .ref (x.f (.rf j)), .ref (x.f (.rg j)), .ref (x.f (.rd j)), .ref (x.f (.rq j)), .int (g' j).n, .int (g' j).k]) : va_E) = .inr (9, [.ref (x.f (.rl j)), .ref (x.f (.rf j)), .ref (x.f (.rg j)), .ref (x.f (.rd j)), .ref (x.f (.rq j)), .int (g j).n, .int (g j).k])
        rw [hg j hj]
    · by_cases hj : j = i
      · subst hj
        show (.inl (ar 2, 24, .inl (g' j).l) : va_E) = .inl (ar 2, 24, .inl (g j).l)
        rw [h_l]
      · show (.inl (ar 2, 24, .inl (g' j).l) : va_E) = .inl (ar 2, 24, .inl (g j).l)
        rw [hg j hj]
    · by_cases hj : j = i
      · subst hj
        show (.inl (ar 0, 24, .inl (g' j).f) : va_E) = .inl (ar 0, 24, .inl (g j).f)
        rw [h_f]
      · show (.inl (ar 0, 24, .inl (g' j).f) : va_E) = .inl (ar 0, 24, .inl (g j).f)
        rw [hg j hj]
    · by_cases hj : j = i
      · subst hj
        show (.inl (ar 0, 24, .inl (g' j).g) : va_E) = .inl (ar 0, 24, .inl (g j).g)
        rw [h_g]
      · show (.inl (ar 0, 24, .inl (g' j).g) : va_E) = .inl (ar 0, 24, .inl (g j).g)
        rw [hg j hj]
    · by_cases hj : j = i
      · subst hj
        show (.inl (ar 0, 24, .inl (g' j).d) : va_E) = .inl (ar 0, 24, .inl (g j).d)
        rw [h_d]
      · show (.inl (ar 0, 24, .inl (g' j).d) : va_E) = .inl (ar 0, 24, .inl (g j).d)
        rw [hg j hj]
    · by_cases hj : j = i
      · subst hj
        exact absurd rfl q
      · show (.inl (ar 0, 24, .inl (g' j).q) : va_E) = .inl (ar 0, 24, .inl (g j).q)
        rw [hg j hj]
  · rfl
theorem ov_wrq {i : Nat} {v v' : Ro} (hv : ∀ a t, x.b a = some t → x.a t = a) (h : x.b (x.a (.rq i)) = some (.rq i)) (hc : c = .inl (ar 0, 24, .inl v'.q)) (h_l : v'.l = v.l) (h_f : v'.f = v.f) (h_g : v'.g = v.g) (h_d : v'.d = v.d) (h_n : v'.n = v.n) (h_k : v'.k = v.k) : g_up (ov κ ar x (S.roS i v) G) (x.f (.rq i)) c = ov κ ar x (S.roS i v') G :=
  ov_wrq0 (g := updN S.ro i v) (g' := updN S.ro i v') hv h (fun j hj => by rw [updN_o hj, updN_o hj]) (by rw [updN_s]; exact hc) (by rw [updN_s, updN_s]; exact h_l) (by rw [updN_s, updN_s]; exact h_f) (by rw [updN_s, updN_s]; exact h_g) (by rw [updN_s, updN_s]; exact h_d) (by rw [updN_s, updN_s]; exact h_n) (by rw [updN_s, updN_s]; exact h_k)
theorem ov_who (hv : ∀ a t, x.b a = some t → x.a t = a) (h : x.b (x.a .ho) = some .ho) (hc : c = .inr (14, [.ref (x.f .cl), .ref (x.f .me), .ref (x.f (.ro T.ty)), .int x.ht, .ref (x.f .gl), .ref (x.f .ts), .ref (x.f .fs), .int T.fn, .int T.st, .int T.rs, .long T.an, .int T.sp, .ref (x.f .wr)])) (h_ab : T.ab = S.ab) (h_fc : T.fc = S.fc) (h_cn : T.cn = S.cn) (h_me : T.me = S.me) (h_nt : T.nt = S.nt) (h_nr : T.nr = S.nr) (h_to : T.to = S.to) (h_ro : T.ro = S.ro) (h_gl : T.gl = S.gl) (h_al : T.al = S.al) (h_re : T.re = S.re) (h_th : T.th = S.th) (h_tc : T.tc = S.tc) (h_rc : T.rc = S.rc) (h_mk : T.mk = S.mk) (h_fr : T.fr = S.fr) (h_np : T.np = S.np) (h_pg : T.pg = S.pg) (h_wc : T.wc = S.wc) (h_ws : T.ws = S.ws) (h_wp : T.wp = S.wp) : g_up (ov κ ar x S G) (x.f .ho) c = ov κ ar x T G := by
  refine ov_w (t := .ho) hv h rfl hc (fun t' q => ?_)
  rcases t' with j | j | j | j | j | j
  · rcases j with ⟨⟩ | ⟨⟩ | ⟨⟩ | ⟨⟩ | ⟨⟩ | ⟨⟩ | ⟨⟩ | ⟨⟩ | ⟨⟩ | ⟨⟩ | ⟨⟩ | ⟨⟩ | ⟨⟩
    · exact absurd rfl q
    · show (.inr (6, [.ref (x.f .ab), .ref (x.f .fc), .int T.cn]) : va_E) = .inr (6, [.ref (x.f .ab), .ref (x.f .fc), .int S.cn])
      rw [h_cn]
    · show (.inl (ar 0, 12, .inl T.ab) : va_E) = .inl (ar 0, 12, .inl S.ab)
      rw [h_ab]
    · show (.inl (ar 0, 12, .inl T.fc) : va_E) = .inl (ar 0, 12, .inl S.fc)
      rw [h_fc]
    · show (.inl (ar 7, 192, .inr (.inr (.inr (.inr (fun j9 => (T.me j9).map (fun k9 => x.f (.to k9))))))) : va_E) = .inl (ar 7, 192, .inr (.inr (.inr (.inr (fun j9 => (S.me j9).map (fun k9 => x.f (.to k9)))))))
      rw [h_me]
    · show (.inl (ar 1, 8, .inr (.inl T.gl)) : va_E) = .inl (ar 1, 8, .inr (.inl S.gl))
      rw [h_gl]
    · show (.inr (11, [.ref (x.f .al), .ref (x.f .re), .int T.tc, .int T.rc, .int T.mk]) : va_E) = .inr (11, [.ref (x.f .al), .ref (x.f .re), .int S.tc, .int S.rc, .int S.mk])
      rw [h_tc, h_rc, h_mk]
    · show (.inl (ar 6, 60, .inr (.inr (.inr (.inr (fun j9 => (T.al j9).map (fun k9 => x.f (.th k9))))))) : va_E) = .inl (ar 6, 60, .inr (.inr (.inr (.inr (fun j9 => (S.al j9).map (fun k9 => x.f (.th k9)))))))
      rw [h_al]
    · show (.inl (ar 6, 60, .inr (.inr (.inr (.inr (fun j9 => (T.re j9).map (fun k9 => x.f (.th k9))))))) : va_E) = .inl (ar 6, 60, .inr (.inr (.inr (.inr (fun j9 => (S.re j9).map (fun k9 => x.f (.th k9)))))))
      rw [h_re]
    · rfl
    · show (.inr (13, [.ref (x.f .pl), .int T.wc, .long T.ws, .long T.wp]) : va_E) = .inr (13, [.ref (x.f .pl), .int S.wc, .long S.ws, .long S.wp])
      rw [h_wc, h_ws, h_wp]
    · show (.inr (5, [.int x.mc, .ref (if T.np = 0 then κ 0 else x.pe), .int (Int32.ofNat T.np)]) : va_E) = .inr (5, [.int x.mc, .ref (if S.np = 0 then κ 0 else x.pe), .int (Int32.ofNat S.np)])
      rw [h_np]
    · show (.inl (ar 8, 10, .inr (.inr (.inr (.inr (fun j9 => if j9 < T.np then some (x.pp j9) else none))))) : va_E) = .inl (ar 8, 10, .inr (.inr (.inr (.inr (fun j9 => if j9 < S.np then some (x.pp j9) else none)))))
      rw [h_np]
  · show cTh ar x T.th j = cTh ar x S.th j
    rw [h_th]
  · show cFr ar x T.fr j = cFr ar x S.fr j
    rw [h_fr]
  · show cTo ar x T.to j = cTo ar x S.to j
    rw [h_to]
  · show cRo ar x T.ro j = cRo ar x S.ro j
    rw [h_ro]
  · show cPg ar x T.pg j = cPg ar x S.pg j
    rw [h_pg]
theorem ov_wcl (hv : ∀ a t, x.b a = some t → x.a t = a) (h : x.b (x.a .cl) = some .cl) (hc : c = .inr (6, [.ref (x.f .ab), .ref (x.f .fc), .int T.cn])) (h_ab : T.ab = S.ab) (h_fc : T.fc = S.fc) (h_me : T.me = S.me) (h_nt : T.nt = S.nt) (h_nr : T.nr = S.nr) (h_ty : T.ty = S.ty) (h_to : T.to = S.to) (h_ro : T.ro = S.ro) (h_gl : T.gl = S.gl) (h_al : T.al = S.al) (h_re : T.re = S.re) (h_th : T.th = S.th) (h_tc : T.tc = S.tc) (h_rc : T.rc = S.rc) (h_mk : T.mk = S.mk) (h_fr : T.fr = S.fr) (h_fn : T.fn = S.fn) (h_st : T.st = S.st) (h_rs : T.rs = S.rs) (h_an : T.an = S.an) (h_sp : T.sp = S.sp) (h_np : T.np = S.np) (h_pg : T.pg = S.pg) (h_wc : T.wc = S.wc) (h_ws : T.ws = S.ws) (h_wp : T.wp = S.wp) : g_up (ov κ ar x S G) (x.f .cl) c = ov κ ar x T G := by
  refine ov_w (t := .cl) hv h rfl hc (fun t' q => ?_)
  rcases t' with j | j | j | j | j | j
  · rcases j with ⟨⟩ | ⟨⟩ | ⟨⟩ | ⟨⟩ | ⟨⟩ | ⟨⟩ | ⟨⟩ | ⟨⟩ | ⟨⟩ | ⟨⟩ | ⟨⟩ | ⟨⟩ | ⟨⟩
    · show (.inr (14, [.ref (x.f .cl), .ref (x.f .me), .ref (x.f (.ro T.ty)), .int x.ht, .ref (x.f .gl), .ref (x.f .ts), .ref (x.f .fs), .int T.fn, .int T.st, .int T.rs, .long T.an, .int T.sp, .ref (x.f .wr)]) : va_E) = .inr (14, [.ref (x.f .cl), .ref (x.f .me), .ref (x.f (.ro S.ty)), .int x.ht, .ref (x.f .gl), .ref (x.f .ts), .ref (x.f .fs), .int S.fn, .int S.st, .int S.rs, .long S.an, .int S.sp, .ref (x.f .wr)])
      rw [h_ty, h_fn, h_st, h_rs, h_an, h_sp]
    · exact absurd rfl q
    · show (.inl (ar 0, 12, .inl T.ab) : va_E) = .inl (ar 0, 12, .inl S.ab)
      rw [h_ab]
    · show (.inl (ar 0, 12, .inl T.fc) : va_E) = .inl (ar 0, 12, .inl S.fc)
      rw [h_fc]
    · show (.inl (ar 7, 192, .inr (.inr (.inr (.inr (fun j9 => (T.me j9).map (fun k9 => x.f (.to k9))))))) : va_E) = .inl (ar 7, 192, .inr (.inr (.inr (.inr (fun j9 => (S.me j9).map (fun k9 => x.f (.to k9)))))))
      rw [h_me]
    · show (.inl (ar 1, 8, .inr (.inl T.gl)) : va_E) = .inl (ar 1, 8, .inr (.inl S.gl))
      rw [h_gl]
    · show (.inr (11, [.ref (x.f .al), .ref (x.f .re), .int T.tc, .int T.rc, .int T.mk]) : va_E) = .inr (11, [.ref (x.f .al), .ref (x.f .re), .int S.tc, .int S.rc, .int S.mk])
      rw [h_tc, h_rc, h_mk]
    · show (.inl (ar 6, 60, .inr (.inr (.inr (.inr (fun j9 => (T.al j9).map (fun k9 => x.f (.th k9))))))) : va_E) = .inl (ar 6, 60, .inr (.inr (.inr (.inr (fun j9 => (S.al j9).map (fun k9 => x.f (.th k9)))))))
      rw [h_al]
    · show (.inl (ar 6, 60, .inr (.inr (.inr (.inr (fun j9 => (T.re j9).map (fun k9 => x.f (.th k9))))))) : va_E) = .inl (ar 6, 60, .inr (.inr (.inr (.inr (fun j9 => (S.re j9).map (fun k9 => x.f (.th k9)))))))
      rw [h_re]
    · rfl
    · show (.inr (13, [.ref (x.f .pl), .int T.wc, .long T.ws, .long T.wp]) : va_E) = .inr (13, [.ref (x.f .pl), .int S.wc, .long S.ws, .long S.wp])
      rw [h_wc, h_ws, h_wp]
    · show (.inr (5, [.int x.mc, .ref (if T.np = 0 then κ 0 else x.pe), .int (Int32.ofNat T.np)]) : va_E) = .inr (5, [.int x.mc, .ref (if S.np = 0 then κ 0 else x.pe), .int (Int32.ofNat S.np)])
      rw [h_np]
    · show (.inl (ar 8, 10, .inr (.inr (.inr (.inr (fun j9 => if j9 < T.np then some (x.pp j9) else none))))) : va_E) = .inl (ar 8, 10, .inr (.inr (.inr (.inr (fun j9 => if j9 < S.np then some (x.pp j9) else none)))))
      rw [h_np]
  · show cTh ar x T.th j = cTh ar x S.th j
    rw [h_th]
  · show cFr ar x T.fr j = cFr ar x S.fr j
    rw [h_fr]
  · show cTo ar x T.to j = cTo ar x S.to j
    rw [h_to]
  · show cRo ar x T.ro j = cRo ar x S.ro j
    rw [h_ro]
  · show cPg ar x T.pg j = cPg ar x S.pg j
    rw [h_pg]
theorem ov_wab (hv : ∀ a t, x.b a = some t → x.a t = a) (h : x.b (x.a .ab) = some .ab) (hc : c = .inl (ar 0, 12, .inl T.ab)) (h_fc : T.fc = S.fc) (h_cn : T.cn = S.cn) (h_me : T.me = S.me) (h_nt : T.nt = S.nt) (h_nr : T.nr = S.nr) (h_ty : T.ty = S.ty) (h_to : T.to = S.to) (h_ro : T.ro = S.ro) (h_gl : T.gl = S.gl) (h_al : T.al = S.al) (h_re : T.re = S.re) (h_th : T.th = S.th) (h_tc : T.tc = S.tc) (h_rc : T.rc = S.rc) (h_mk : T.mk = S.mk) (h_fr : T.fr = S.fr) (h_fn : T.fn = S.fn) (h_st : T.st = S.st) (h_rs : T.rs = S.rs) (h_an : T.an = S.an) (h_sp : T.sp = S.sp) (h_np : T.np = S.np) (h_pg : T.pg = S.pg) (h_wc : T.wc = S.wc) (h_ws : T.ws = S.ws) (h_wp : T.wp = S.wp) : g_up (ov κ ar x S G) (x.f .ab) c = ov κ ar x T G := by
  refine ov_w (t := .ab) hv h rfl hc (fun t' q => ?_)
  rcases t' with j | j | j | j | j | j
  · rcases j with ⟨⟩ | ⟨⟩ | ⟨⟩ | ⟨⟩ | ⟨⟩ | ⟨⟩ | ⟨⟩ | ⟨⟩ | ⟨⟩ | ⟨⟩ | ⟨⟩ | ⟨⟩ | ⟨⟩
    · show (.inr (14, [.ref (x.f .cl), .ref (x.f .me), .ref (x.f (.ro T.ty)), .int x.ht, .ref (x.f .gl), .ref (x.f .ts), .ref (x.f .fs), .int T.fn, .int T.st, .int T.rs, .long T.an, .int T.sp, .ref (x.f .wr)]) : va_E) = .inr (14, [.ref (x.f .cl), .ref (x.f .me), .ref (x.f (.ro S.ty)), .int x.ht, .ref (x.f .gl), .ref (x.f .ts), .ref (x.f .fs), .int S.fn, .int S.st, .int S.rs, .long S.an, .int S.sp, .ref (x.f .wr)])
      rw [h_ty, h_fn, h_st, h_rs, h_an, h_sp]
    · show (.inr (6, [.ref (x.f .ab), .ref (x.f .fc), .int T.cn]) : va_E) = .inr (6, [.ref (x.f .ab), .ref (x.f .fc), .int S.cn])
      rw [h_cn]
    · exact absurd rfl q
    · show (.inl (ar 0, 12, .inl T.fc) : va_E) = .inl (ar 0, 12, .inl S.fc)
      rw [h_fc]
    · show (.inl (ar 7, 192, .inr (.inr (.inr (.inr (fun j9 => (T.me j9).map (fun k9 => x.f (.to k9))))))) : va_E) = .inl (ar 7, 192, .inr (.inr (.inr (.inr (fun j9 => (S.me j9).map (fun k9 => x.f (.to k9)))))))
      rw [h_me]
    · show (.inl (ar 1, 8, .inr (.inl T.gl)) : va_E) = .inl (ar 1, 8, .inr (.inl S.gl))
      rw [h_gl]
    · show (.inr (11, [.ref (x.f .al), .ref (x.f .re), .int T.tc, .int T.rc, .int T.mk]) : va_E) = .inr (11, [.ref (x.f .al), .ref (x.f .re), .int S.tc, .int S.rc, .int S.mk])
      rw [h_tc, h_rc, h_mk]
    · show (.inl (ar 6, 60, .inr (.inr (.inr (.inr (fun j9 => (T.al j9).map (fun k9 => x.f (.th k9))))))) : va_E) = .inl (ar 6, 60, .inr (.inr (.inr (.inr (fun j9 => (S.al j9).map (fun k9 => x.f (.th k9)))))))
      rw [h_al]
    · show (.inl (ar 6, 60, .inr (.inr (.inr (.inr (fun j9 => (T.re j9).map (fun k9 => x.f (.th k9))))))) : va_E) = .inl (ar 6, 60, .inr (.inr (.inr (.inr (fun j9 => (S.re j9).map (fun k9 => x.f (.th k9)))))))
      rw [h_re]
    · rfl
    · show (.inr (13, [.ref (x.f .pl), .int T.wc, .long T.ws, .long T.wp]) : va_E) = .inr (13, [.ref (x.f .pl), .int S.wc, .long S.ws, .long S.wp])
      rw [h_wc, h_ws, h_wp]
    · show (.inr (5, [.int x.mc, .ref (if T.np = 0 then κ 0 else x.pe), .int (Int32.ofNat T.np)]) : va_E) = .inr (5, [.int x.mc, .ref (if S.np = 0 then κ 0 else x.pe), .int (Int32.ofNat S.np)])
      rw [h_np]
    · show (.inl (ar 8, 10, .inr (.inr (.inr (.inr (fun j9 => if j9 < T.np then some (x.pp j9) else none))))) : va_E) = .inl (ar 8, 10, .inr (.inr (.inr (.inr (fun j9 => if j9 < S.np then some (x.pp j9) else none)))))
      rw [h_np]
  · show cTh ar x T.th j = cTh ar x S.th j
    rw [h_th]
  · show cFr ar x T.fr j = cFr ar x S.fr j
    rw [h_fr]
  · show cTo ar x T.to j = cTo ar x S.to j
    rw [h_to]
  · show cRo ar x T.ro j = cRo ar x S.ro j
    rw [h_ro]
  · show cPg ar x T.pg j = cPg ar x S.pg j
    rw [h_pg]
theorem ov_wfc (hv : ∀ a t, x.b a = some t → x.a t = a) (h : x.b (x.a .fc) = some .fc) (hc : c = .inl (ar 0, 12, .inl T.fc)) (h_ab : T.ab = S.ab) (h_cn : T.cn = S.cn) (h_me : T.me = S.me) (h_nt : T.nt = S.nt) (h_nr : T.nr = S.nr) (h_ty : T.ty = S.ty) (h_to : T.to = S.to) (h_ro : T.ro = S.ro) (h_gl : T.gl = S.gl) (h_al : T.al = S.al) (h_re : T.re = S.re) (h_th : T.th = S.th) (h_tc : T.tc = S.tc) (h_rc : T.rc = S.rc) (h_mk : T.mk = S.mk) (h_fr : T.fr = S.fr) (h_fn : T.fn = S.fn) (h_st : T.st = S.st) (h_rs : T.rs = S.rs) (h_an : T.an = S.an) (h_sp : T.sp = S.sp) (h_np : T.np = S.np) (h_pg : T.pg = S.pg) (h_wc : T.wc = S.wc) (h_ws : T.ws = S.ws) (h_wp : T.wp = S.wp) : g_up (ov κ ar x S G) (x.f .fc) c = ov κ ar x T G := by
  refine ov_w (t := .fc) hv h rfl hc (fun t' q => ?_)
  rcases t' with j | j | j | j | j | j
  · rcases j with ⟨⟩ | ⟨⟩ | ⟨⟩ | ⟨⟩ | ⟨⟩ | ⟨⟩ | ⟨⟩ | ⟨⟩ | ⟨⟩ | ⟨⟩ | ⟨⟩ | ⟨⟩ | ⟨⟩
    · show (.inr (14, [.ref (x.f .cl), .ref (x.f .me), .ref (x.f (.ro T.ty)), .int x.ht, .ref (x.f .gl), .ref (x.f .ts), .ref (x.f .fs), .int T.fn, .int T.st, .int T.rs, .long T.an, .int T.sp, .ref (x.f .wr)]) : va_E) = .inr (14, [.ref (x.f .cl), .ref (x.f .me), .ref (x.f (.ro S.ty)), .int x.ht, .ref (x.f .gl), .ref (x.f .ts), .ref (x.f .fs), .int S.fn, .int S.st, .int S.rs, .long S.an, .int S.sp, .ref (x.f .wr)])
      rw [h_ty, h_fn, h_st, h_rs, h_an, h_sp]
    · show (.inr (6, [.ref (x.f .ab), .ref (x.f .fc), .int T.cn]) : va_E) = .inr (6, [.ref (x.f .ab), .ref (x.f .fc), .int S.cn])
      rw [h_cn]
    · show (.inl (ar 0, 12, .inl T.ab) : va_E) = .inl (ar 0, 12, .inl S.ab)
      rw [h_ab]
    · exact absurd rfl q
    · show (.inl (ar 7, 192, .inr (.inr (.inr (.inr (fun j9 => (T.me j9).map (fun k9 => x.f (.to k9))))))) : va_E) = .inl (ar 7, 192, .inr (.inr (.inr (.inr (fun j9 => (S.me j9).map (fun k9 => x.f (.to k9)))))))
      rw [h_me]
    · show (.inl (ar 1, 8, .inr (.inl T.gl)) : va_E) = .inl (ar 1, 8, .inr (.inl S.gl))
      rw [h_gl]
    · show (.inr (11, [.ref (x.f .al), .ref (x.f .re), .int T.tc, .int T.rc, .int T.mk]) : va_E) = .inr (11, [.ref (x.f .al), .ref (x.f .re), .int S.tc, .int S.rc, .int S.mk])
      rw [h_tc, h_rc, h_mk]
    · show (.inl (ar 6, 60, .inr (.inr (.inr (.inr (fun j9 => (T.al j9).map (fun k9 => x.f (.th k9))))))) : va_E) = .inl (ar 6, 60, .inr (.inr (.inr (.inr (fun j9 => (S.al j9).map (fun k9 => x.f (.th k9)))))))
      rw [h_al]
    · show (.inl (ar 6, 60, .inr (.inr (.inr (.inr (fun j9 => (T.re j9).map (fun k9 => x.f (.th k9))))))) : va_E) = .inl (ar 6, 60, .inr (.inr (.inr (.inr (fun j9 => (S.re j9).map (fun k9 => x.f (.th k9)))))))
      rw [h_re]
    · rfl
    · show (.inr (13, [.ref (x.f .pl), .int T.wc, .long T.ws, .long T.wp]) : va_E) = .inr (13, [.ref (x.f .pl), .int S.wc, .long S.ws, .long S.wp])
      rw [h_wc, h_ws, h_wp]
    · show (.inr (5, [.int x.mc, .ref (if T.np = 0 then κ 0 else x.pe), .int (Int32.ofNat T.np)]) : va_E) = .inr (5, [.int x.mc, .ref (if S.np = 0 then κ 0 else x.pe), .int (Int32.ofNat S.np)])
      rw [h_np]
    · show (.inl (ar 8, 10, .inr (.inr (.inr (.inr (fun j9 => if j9 < T.np then some (x.pp j9) else none))))) : va_E) = .inl (ar 8, 10, .inr (.inr (.inr (.inr (fun j9 => if j9 < S.np then some (x.pp j9) else none)))))
      rw [h_np]
  · show cTh ar x T.th j = cTh ar x S.th j
    rw [h_th]
  · show cFr ar x T.fr j = cFr ar x S.fr j
    rw [h_fr]
  · show cTo ar x T.to j = cTo ar x S.to j
    rw [h_to]
  · show cRo ar x T.ro j = cRo ar x S.ro j
    rw [h_ro]
  · show cPg ar x T.pg j = cPg ar x S.pg j
    rw [h_pg]
theorem ov_wme (hv : ∀ a t, x.b a = some t → x.a t = a) (h : x.b (x.a .me) = some .me) (hc : c = .inl (ar 7, 192, .inr (.inr (.inr (.inr (fun j9 => (T.me j9).map (fun k9 => x.f (.to k9)))))))) (h_ab : T.ab = S.ab) (h_fc : T.fc = S.fc) (h_cn : T.cn = S.cn) (h_nt : T.nt = S.nt) (h_nr : T.nr = S.nr) (h_ty : T.ty = S.ty) (h_to : T.to = S.to) (h_ro : T.ro = S.ro) (h_gl : T.gl = S.gl) (h_al : T.al = S.al) (h_re : T.re = S.re) (h_th : T.th = S.th) (h_tc : T.tc = S.tc) (h_rc : T.rc = S.rc) (h_mk : T.mk = S.mk) (h_fr : T.fr = S.fr) (h_fn : T.fn = S.fn) (h_st : T.st = S.st) (h_rs : T.rs = S.rs) (h_an : T.an = S.an) (h_sp : T.sp = S.sp) (h_np : T.np = S.np) (h_pg : T.pg = S.pg) (h_wc : T.wc = S.wc) (h_ws : T.ws = S.ws) (h_wp : T.wp = S.wp) : g_up (ov κ ar x S G) (x.f .me) c = ov κ ar x T G := by
  refine ov_w (t := .me) hv h rfl hc (fun t' q => ?_)
  rcases t' with j | j | j | j | j | j
  · rcases j with ⟨⟩ | ⟨⟩ | ⟨⟩ | ⟨⟩ | ⟨⟩ | ⟨⟩ | ⟨⟩ | ⟨⟩ | ⟨⟩ | ⟨⟩ | ⟨⟩ | ⟨⟩ | ⟨⟩
    · show (.inr (14, [.ref (x.f .cl), .ref (x.f .me), .ref (x.f (.ro T.ty)), .int x.ht, .ref (x.f .gl), .ref (x.f .ts), .ref (x.f .fs), .int T.fn, .int T.st, .int T.rs, .long T.an, .int T.sp, .ref (x.f .wr)]) : va_E) = .inr (14, [.ref (x.f .cl), .ref (x.f .me), .ref (x.f (.ro S.ty)), .int x.ht, .ref (x.f .gl), .ref (x.f .ts), .ref (x.f .fs), .int S.fn, .int S.st, .int S.rs, .long S.an, .int S.sp, .ref (x.f .wr)])
      rw [h_ty, h_fn, h_st, h_rs, h_an, h_sp]
    · show (.inr (6, [.ref (x.f .ab), .ref (x.f .fc), .int T.cn]) : va_E) = .inr (6, [.ref (x.f .ab), .ref (x.f .fc), .int S.cn])
      rw [h_cn]
    · show (.inl (ar 0, 12, .inl T.ab) : va_E) = .inl (ar 0, 12, .inl S.ab)
      rw [h_ab]
    · show (.inl (ar 0, 12, .inl T.fc) : va_E) = .inl (ar 0, 12, .inl S.fc)
      rw [h_fc]
    · exact absurd rfl q
    · show (.inl (ar 1, 8, .inr (.inl T.gl)) : va_E) = .inl (ar 1, 8, .inr (.inl S.gl))
      rw [h_gl]
    · show (.inr (11, [.ref (x.f .al), .ref (x.f .re), .int T.tc, .int T.rc, .int T.mk]) : va_E) = .inr (11, [.ref (x.f .al), .ref (x.f .re), .int S.tc, .int S.rc, .int S.mk])
      rw [h_tc, h_rc, h_mk]
    · show (.inl (ar 6, 60, .inr (.inr (.inr (.inr (fun j9 => (T.al j9).map (fun k9 => x.f (.th k9))))))) : va_E) = .inl (ar 6, 60, .inr (.inr (.inr (.inr (fun j9 => (S.al j9).map (fun k9 => x.f (.th k9)))))))
      rw [h_al]
    · show (.inl (ar 6, 60, .inr (.inr (.inr (.inr (fun j9 => (T.re j9).map (fun k9 => x.f (.th k9))))))) : va_E) = .inl (ar 6, 60, .inr (.inr (.inr (.inr (fun j9 => (S.re j9).map (fun k9 => x.f (.th k9)))))))
      rw [h_re]
    · rfl
    · show (.inr (13, [.ref (x.f .pl), .int T.wc, .long T.ws, .long T.wp]) : va_E) = .inr (13, [.ref (x.f .pl), .int S.wc, .long S.ws, .long S.wp])
      rw [h_wc, h_ws, h_wp]
    · show (.inr (5, [.int x.mc, .ref (if T.np = 0 then κ 0 else x.pe), .int (Int32.ofNat T.np)]) : va_E) = .inr (5, [.int x.mc, .ref (if S.np = 0 then κ 0 else x.pe), .int (Int32.ofNat S.np)])
      rw [h_np]
    · show (.inl (ar 8, 10, .inr (.inr (.inr (.inr (fun j9 => if j9 < T.np then some (x.pp j9) else none))))) : va_E) = .inl (ar 8, 10, .inr (.inr (.inr (.inr (fun j9 => if j9 < S.np then some (x.pp j9) else none)))))
      rw [h_np]
  · show cTh ar x T.th j = cTh ar x S.th j
    rw [h_th]
  · show cFr ar x T.fr j = cFr ar x S.fr j
    rw [h_fr]
  · show cTo ar x T.to j = cTo ar x S.to j
    rw [h_to]
  · show cRo ar x T.ro j = cRo ar x S.ro j
    rw [h_ro]
  · show cPg ar x T.pg j = cPg ar x S.pg j
    rw [h_pg]
theorem ov_wgl (hv : ∀ a t, x.b a = some t → x.a t = a) (h : x.b (x.a .gl) = some .gl) (hc : c = .inl (ar 1, 8, .inr (.inl T.gl))) (h_ab : T.ab = S.ab) (h_fc : T.fc = S.fc) (h_cn : T.cn = S.cn) (h_me : T.me = S.me) (h_nt : T.nt = S.nt) (h_nr : T.nr = S.nr) (h_ty : T.ty = S.ty) (h_to : T.to = S.to) (h_ro : T.ro = S.ro) (h_al : T.al = S.al) (h_re : T.re = S.re) (h_th : T.th = S.th) (h_tc : T.tc = S.tc) (h_rc : T.rc = S.rc) (h_mk : T.mk = S.mk) (h_fr : T.fr = S.fr) (h_fn : T.fn = S.fn) (h_st : T.st = S.st) (h_rs : T.rs = S.rs) (h_an : T.an = S.an) (h_sp : T.sp = S.sp) (h_np : T.np = S.np) (h_pg : T.pg = S.pg) (h_wc : T.wc = S.wc) (h_ws : T.ws = S.ws) (h_wp : T.wp = S.wp) : g_up (ov κ ar x S G) (x.f .gl) c = ov κ ar x T G := by
  refine ov_w (t := .gl) hv h rfl hc (fun t' q => ?_)
  rcases t' with j | j | j | j | j | j
  · rcases j with ⟨⟩ | ⟨⟩ | ⟨⟩ | ⟨⟩ | ⟨⟩ | ⟨⟩ | ⟨⟩ | ⟨⟩ | ⟨⟩ | ⟨⟩ | ⟨⟩ | ⟨⟩ | ⟨⟩
    · show (.inr (14, [.ref (x.f .cl), .ref (x.f .me), .ref (x.f (.ro T.ty)), .int x.ht, .ref (x.f .gl), .ref (x.f .ts), .ref (x.f .fs), .int T.fn, .int T.st, .int T.rs, .long T.an, .int T.sp, .ref (x.f .wr)]) : va_E) = .inr (14, [.ref (x.f .cl), .ref (x.f .me), .ref (x.f (.ro S.ty)), .int x.ht, .ref (x.f .gl), .ref (x.f .ts), .ref (x.f .fs), .int S.fn, .int S.st, .int S.rs, .long S.an, .int S.sp, .ref (x.f .wr)])
      rw [h_ty, h_fn, h_st, h_rs, h_an, h_sp]
    · show (.inr (6, [.ref (x.f .ab), .ref (x.f .fc), .int T.cn]) : va_E) = .inr (6, [.ref (x.f .ab), .ref (x.f .fc), .int S.cn])
      rw [h_cn]
    · show (.inl (ar 0, 12, .inl T.ab) : va_E) = .inl (ar 0, 12, .inl S.ab)
      rw [h_ab]
    · show (.inl (ar 0, 12, .inl T.fc) : va_E) = .inl (ar 0, 12, .inl S.fc)
      rw [h_fc]
    · show (.inl (ar 7, 192, .inr (.inr (.inr (.inr (fun j9 => (T.me j9).map (fun k9 => x.f (.to k9))))))) : va_E) = .inl (ar 7, 192, .inr (.inr (.inr (.inr (fun j9 => (S.me j9).map (fun k9 => x.f (.to k9)))))))
      rw [h_me]
    · exact absurd rfl q
    · show (.inr (11, [.ref (x.f .al), .ref (x.f .re), .int T.tc, .int T.rc, .int T.mk]) : va_E) = .inr (11, [.ref (x.f .al), .ref (x.f .re), .int S.tc, .int S.rc, .int S.mk])
      rw [h_tc, h_rc, h_mk]
    · show (.inl (ar 6, 60, .inr (.inr (.inr (.inr (fun j9 => (T.al j9).map (fun k9 => x.f (.th k9))))))) : va_E) = .inl (ar 6, 60, .inr (.inr (.inr (.inr (fun j9 => (S.al j9).map (fun k9 => x.f (.th k9)))))))
      rw [h_al]
    · show (.inl (ar 6, 60, .inr (.inr (.inr (.inr (fun j9 => (T.re j9).map (fun k9 => x.f (.th k9))))))) : va_E) = .inl (ar 6, 60, .inr (.inr (.inr (.inr (fun j9 => (S.re j9).map (fun k9 => x.f (.th k9)))))))
      rw [h_re]
    · rfl
    · show (.inr (13, [.ref (x.f .pl), .int T.wc, .long T.ws, .long T.wp]) : va_E) = .inr (13, [.ref (x.f .pl), .int S.wc, .long S.ws, .long S.wp])
      rw [h_wc, h_ws, h_wp]
    · show (.inr (5, [.int x.mc, .ref (if T.np = 0 then κ 0 else x.pe), .int (Int32.ofNat T.np)]) : va_E) = .inr (5, [.int x.mc, .ref (if S.np = 0 then κ 0 else x.pe), .int (Int32.ofNat S.np)])
      rw [h_np]
    · show (.inl (ar 8, 10, .inr (.inr (.inr (.inr (fun j9 => if j9 < T.np then some (x.pp j9) else none))))) : va_E) = .inl (ar 8, 10, .inr (.inr (.inr (.inr (fun j9 => if j9 < S.np then some (x.pp j9) else none)))))
      rw [h_np]
  · show cTh ar x T.th j = cTh ar x S.th j
    rw [h_th]
  · show cFr ar x T.fr j = cFr ar x S.fr j
    rw [h_fr]
  · show cTo ar x T.to j = cTo ar x S.to j
    rw [h_to]
  · show cRo ar x T.ro j = cRo ar x S.ro j
    rw [h_ro]
  · show cPg ar x T.pg j = cPg ar x S.pg j
    rw [h_pg]
theorem ov_wts (hv : ∀ a t, x.b a = some t → x.a t = a) (h : x.b (x.a .ts) = some .ts) (hc : c = .inr (11, [.ref (x.f .al), .ref (x.f .re), .int T.tc, .int T.rc, .int T.mk])) (h_ab : T.ab = S.ab) (h_fc : T.fc = S.fc) (h_cn : T.cn = S.cn) (h_me : T.me = S.me) (h_nt : T.nt = S.nt) (h_nr : T.nr = S.nr) (h_ty : T.ty = S.ty) (h_to : T.to = S.to) (h_ro : T.ro = S.ro) (h_gl : T.gl = S.gl) (h_al : T.al = S.al) (h_re : T.re = S.re) (h_th : T.th = S.th) (h_fr : T.fr = S.fr) (h_fn : T.fn = S.fn) (h_st : T.st = S.st) (h_rs : T.rs = S.rs) (h_an : T.an = S.an) (h_sp : T.sp = S.sp) (h_np : T.np = S.np) (h_pg : T.pg = S.pg) (h_wc : T.wc = S.wc) (h_ws : T.ws = S.ws) (h_wp : T.wp = S.wp) : g_up (ov κ ar x S G) (x.f .ts) c = ov κ ar x T G := by
  refine ov_w (t := .ts) hv h rfl hc (fun t' q => ?_)
  rcases t' with j | j | j | j | j | j
  · rcases j with ⟨⟩ | ⟨⟩ | ⟨⟩ | ⟨⟩ | ⟨⟩ | ⟨⟩ | ⟨⟩ | ⟨⟩ | ⟨⟩ | ⟨⟩ | ⟨⟩ | ⟨⟩ | ⟨⟩
    · show (.inr (14, [.ref (x.f .cl), .ref (x.f .me), .ref (x.f (.ro T.ty)), .int x.ht, .ref (x.f .gl), .ref (x.f .ts), .ref (x.f .fs), .int T.fn, .int T.st, .int T.rs, .long T.an, .int T.sp, .ref (x.f .wr)]) : va_E) = .inr (14, [.ref (x.f .cl), .ref (x.f .me), .ref (x.f (.ro S.ty)), .int x.ht, .ref (x.f .gl), .ref (x.f .ts), .ref (x.f .fs), .int S.fn, .int S.st, .int S.rs, .long S.an, .int S.sp, .ref (x.f .wr)])
      rw [h_ty, h_fn, h_st, h_rs, h_an, h_sp]
    · show (.inr (6, [.ref (x.f .ab), .ref (x.f .fc), .int T.cn]) : va_E) = .inr (6, [.ref (x.f .ab), .ref (x.f .fc), .int S.cn])
      rw [h_cn]
    · show (.inl (ar 0, 12, .inl T.ab) : va_E) = .inl (ar 0, 12, .inl S.ab)
      rw [h_ab]
    · show (.inl (ar 0, 12, .inl T.fc) : va_E) = .inl (ar 0, 12, .inl S.fc)
      rw [h_fc]
    · show (.inl (ar 7, 192, .inr (.inr (.inr (.inr (fun j9 => (T.me j9).map (fun k9 => x.f (.to k9))))))) : va_E) = .inl (ar 7, 192, .inr (.inr (.inr (.inr (fun j9 => (S.me j9).map (fun k9 => x.f (.to k9)))))))
      rw [h_me]
    · show (.inl (ar 1, 8, .inr (.inl T.gl)) : va_E) = .inl (ar 1, 8, .inr (.inl S.gl))
      rw [h_gl]
    · exact absurd rfl q
    · show (.inl (ar 6, 60, .inr (.inr (.inr (.inr (fun j9 => (T.al j9).map (fun k9 => x.f (.th k9))))))) : va_E) = .inl (ar 6, 60, .inr (.inr (.inr (.inr (fun j9 => (S.al j9).map (fun k9 => x.f (.th k9)))))))
      rw [h_al]
    · show (.inl (ar 6, 60, .inr (.inr (.inr (.inr (fun j9 => (T.re j9).map (fun k9 => x.f (.th k9))))))) : va_E) = .inl (ar 6, 60, .inr (.inr (.inr (.inr (fun j9 => (S.re j9).map (fun k9 => x.f (.th k9)))))))
      rw [h_re]
    · rfl
    · show (.inr (13, [.ref (x.f .pl), .int T.wc, .long T.ws, .long T.wp]) : va_E) = .inr (13, [.ref (x.f .pl), .int S.wc, .long S.ws, .long S.wp])
      rw [h_wc, h_ws, h_wp]
    · show (.inr (5, [.int x.mc, .ref (if T.np = 0 then κ 0 else x.pe), .int (Int32.ofNat T.np)]) : va_E) = .inr (5, [.int x.mc, .ref (if S.np = 0 then κ 0 else x.pe), .int (Int32.ofNat S.np)])
      rw [h_np]
    · show (.inl (ar 8, 10, .inr (.inr (.inr (.inr (fun j9 => if j9 < T.np then some (x.pp j9) else none))))) : va_E) = .inl (ar 8, 10, .inr (.inr (.inr (.inr (fun j9 => if j9 < S.np then some (x.pp j9) else none)))))
      rw [h_np]
  · show cTh ar x T.th j = cTh ar x S.th j
    rw [h_th]
  · show cFr ar x T.fr j = cFr ar x S.fr j
    rw [h_fr]
  · show cTo ar x T.to j = cTo ar x S.to j
    rw [h_to]
  · show cRo ar x T.ro j = cRo ar x S.ro j
    rw [h_ro]
  · show cPg ar x T.pg j = cPg ar x S.pg j
    rw [h_pg]
theorem ov_wal (hv : ∀ a t, x.b a = some t → x.a t = a) (h : x.b (x.a .al) = some .al) (hc : c = .inl (ar 6, 60, .inr (.inr (.inr (.inr (fun j9 => (T.al j9).map (fun k9 => x.f (.th k9)))))))) (h_ab : T.ab = S.ab) (h_fc : T.fc = S.fc) (h_cn : T.cn = S.cn) (h_me : T.me = S.me) (h_nt : T.nt = S.nt) (h_nr : T.nr = S.nr) (h_ty : T.ty = S.ty) (h_to : T.to = S.to) (h_ro : T.ro = S.ro) (h_gl : T.gl = S.gl) (h_re : T.re = S.re) (h_th : T.th = S.th) (h_tc : T.tc = S.tc) (h_rc : T.rc = S.rc) (h_mk : T.mk = S.mk) (h_fr : T.fr = S.fr) (h_fn : T.fn = S.fn) (h_st : T.st = S.st) (h_rs : T.rs = S.rs) (h_an : T.an = S.an) (h_sp : T.sp = S.sp) (h_np : T.np = S.np) (h_pg : T.pg = S.pg) (h_wc : T.wc = S.wc) (h_ws : T.ws = S.ws) (h_wp : T.wp = S.wp) : g_up (ov κ ar x S G) (x.f .al) c = ov κ ar x T G := by
  refine ov_w (t := .al) hv h rfl hc (fun t' q => ?_)
  rcases t' with j | j | j | j | j | j
  · rcases j with ⟨⟩ | ⟨⟩ | ⟨⟩ | ⟨⟩ | ⟨⟩ | ⟨⟩ | ⟨⟩ | ⟨⟩ | ⟨⟩ | ⟨⟩ | ⟨⟩ | ⟨⟩ | ⟨⟩
    · show (.inr (14, [.ref (x.f .cl), .ref (x.f .me), .ref (x.f (.ro T.ty)), .int x.ht, .ref (x.f .gl), .ref (x.f .ts), .ref (x.f .fs), .int T.fn, .int T.st, .int T.rs, .long T.an, .int T.sp, .ref (x.f .wr)]) : va_E) = .inr (14, [.ref (x.f .cl), .ref (x.f .me), .ref (x.f (.ro S.ty)), .int x.ht, .ref (x.f .gl), .ref (x.f .ts), .ref (x.f .fs), .int S.fn, .int S.st, .int S.rs, .long S.an, .int S.sp, .ref (x.f .wr)])
      rw [h_ty, h_fn, h_st, h_rs, h_an, h_sp]
    · show (.inr (6, [.ref (x.f .ab), .ref (x.f .fc), .int T.cn]) : va_E) = .inr (6, [.ref (x.f .ab), .ref (x.f .fc), .int S.cn])
      rw [h_cn]
    · show (.inl (ar 0, 12, .inl T.ab) : va_E) = .inl (ar 0, 12, .inl S.ab)
      rw [h_ab]
    · show (.inl (ar 0, 12, .inl T.fc) : va_E) = .inl (ar 0, 12, .inl S.fc)
      rw [h_fc]
    · show (.inl (ar 7, 192, .inr (.inr (.inr (.inr (fun j9 => (T.me j9).map (fun k9 => x.f (.to k9))))))) : va_E) = .inl (ar 7, 192, .inr (.inr (.inr (.inr (fun j9 => (S.me j9).map (fun k9 => x.f (.to k9)))))))
      rw [h_me]
    · show (.inl (ar 1, 8, .inr (.inl T.gl)) : va_E) = .inl (ar 1, 8, .inr (.inl S.gl))
      rw [h_gl]
    · show (.inr (11, [.ref (x.f .al), .ref (x.f .re), .int T.tc, .int T.rc, .int T.mk]) : va_E) = .inr (11, [.ref (x.f .al), .ref (x.f .re), .int S.tc, .int S.rc, .int S.mk])
      rw [h_tc, h_rc, h_mk]
    · exact absurd rfl q
    · show (.inl (ar 6, 60, .inr (.inr (.inr (.inr (fun j9 => (T.re j9).map (fun k9 => x.f (.th k9))))))) : va_E) = .inl (ar 6, 60, .inr (.inr (.inr (.inr (fun j9 => (S.re j9).map (fun k9 => x.f (.th k9)))))))
      rw [h_re]
    · rfl
    · show (.inr (13, [.ref (x.f .pl), .int T.wc, .long T.ws, .long T.wp]) : va_E) = .inr (13, [.ref (x.f .pl), .int S.wc, .long S.ws, .long S.wp])
      rw [h_wc, h_ws, h_wp]
    · show (.inr (5, [.int x.mc, .ref (if T.np = 0 then κ 0 else x.pe), .int (Int32.ofNat T.np)]) : va_E) = .inr (5, [.int x.mc, .ref (if S.np = 0 then κ 0 else x.pe), .int (Int32.ofNat S.np)])
      rw [h_np]
    · show (.inl (ar 8, 10, .inr (.inr (.inr (.inr (fun j9 => if j9 < T.np then some (x.pp j9) else none))))) : va_E) = .inl (ar 8, 10, .inr (.inr (.inr (.inr (fun j9 => if j9 < S.np then some (x.pp j9) else none)))))
      rw [h_np]
  · show cTh ar x T.th j = cTh ar x S.th j
    rw [h_th]
  · show cFr ar x T.fr j = cFr ar x S.fr j
    rw [h_fr]
  · show cTo ar x T.to j = cTo ar x S.to j
    rw [h_to]
  · show cRo ar x T.ro j = cRo ar x S.ro j
    rw [h_ro]
  · show cPg ar x T.pg j = cPg ar x S.pg j
    rw [h_pg]
theorem ov_wre (hv : ∀ a t, x.b a = some t → x.a t = a) (h : x.b (x.a .re) = some .re) (hc : c = .inl (ar 6, 60, .inr (.inr (.inr (.inr (fun j9 => (T.re j9).map (fun k9 => x.f (.th k9)))))))) (h_ab : T.ab = S.ab) (h_fc : T.fc = S.fc) (h_cn : T.cn = S.cn) (h_me : T.me = S.me) (h_nt : T.nt = S.nt) (h_nr : T.nr = S.nr) (h_ty : T.ty = S.ty) (h_to : T.to = S.to) (h_ro : T.ro = S.ro) (h_gl : T.gl = S.gl) (h_al : T.al = S.al) (h_th : T.th = S.th) (h_tc : T.tc = S.tc) (h_rc : T.rc = S.rc) (h_mk : T.mk = S.mk) (h_fr : T.fr = S.fr) (h_fn : T.fn = S.fn) (h_st : T.st = S.st) (h_rs : T.rs = S.rs) (h_an : T.an = S.an) (h_sp : T.sp = S.sp) (h_np : T.np = S.np) (h_pg : T.pg = S.pg) (h_wc : T.wc = S.wc) (h_ws : T.ws = S.ws) (h_wp : T.wp = S.wp) : g_up (ov κ ar x S G) (x.f .re) c = ov κ ar x T G := by
  refine ov_w (t := .re) hv h rfl hc (fun t' q => ?_)
  rcases t' with j | j | j | j | j | j
  · rcases j with ⟨⟩ | ⟨⟩ | ⟨⟩ | ⟨⟩ | ⟨⟩ | ⟨⟩ | ⟨⟩ | ⟨⟩ | ⟨⟩ | ⟨⟩ | ⟨⟩ | ⟨⟩ | ⟨⟩
    · show (.inr (14, [.ref (x.f .cl), .ref (x.f .me), .ref (x.f (.ro T.ty)), .int x.ht, .ref (x.f .gl), .ref (x.f .ts), .ref (x.f .fs), .int T.fn, .int T.st, .int T.rs, .long T.an, .int T.sp, .ref (x.f .wr)]) : va_E) = .inr (14, [.ref (x.f .cl), .ref (x.f .me), .ref (x.f (.ro S.ty)), .int x.ht, .ref (x.f .gl), .ref (x.f .ts), .ref (x.f .fs), .int S.fn, .int S.st, .int S.rs, .long S.an, .int S.sp, .ref (x.f .wr)])
      rw [h_ty, h_fn, h_st, h_rs, h_an, h_sp]
    · show (.inr (6, [.ref (x.f .ab), .ref (x.f .fc), .int T.cn]) : va_E) = .inr (6, [.ref (x.f .ab), .ref (x.f .fc), .int S.cn])
      rw [h_cn]
    · show (.inl (ar 0, 12, .inl T.ab) : va_E) = .inl (ar 0, 12, .inl S.ab)
      rw [h_ab]
    · show (.inl (ar 0, 12, .inl T.fc) : va_E) = .inl (ar 0, 12, .inl S.fc)
      rw [h_fc]
    · show (.inl (ar 7, 192, .inr (.inr (.inr (.inr (fun j9 => (T.me j9).map (fun k9 => x.f (.to k9))))))) : va_E) = .inl (ar 7, 192, .inr (.inr (.inr (.inr (fun j9 => (S.me j9).map (fun k9 => x.f (.to k9)))))))
      rw [h_me]
    · show (.inl (ar 1, 8, .inr (.inl T.gl)) : va_E) = .inl (ar 1, 8, .inr (.inl S.gl))
      rw [h_gl]
    · show (.inr (11, [.ref (x.f .al), .ref (x.f .re), .int T.tc, .int T.rc, .int T.mk]) : va_E) = .inr (11, [.ref (x.f .al), .ref (x.f .re), .int S.tc, .int S.rc, .int S.mk])
      rw [h_tc, h_rc, h_mk]
    · show (.inl (ar 6, 60, .inr (.inr (.inr (.inr (fun j9 => (T.al j9).map (fun k9 => x.f (.th k9))))))) : va_E) = .inl (ar 6, 60, .inr (.inr (.inr (.inr (fun j9 => (S.al j9).map (fun k9 => x.f (.th k9)))))))
      rw [h_al]
    · exact absurd rfl q
    · rfl
    · show (.inr (13, [.ref (x.f .pl), .int T.wc, .long T.ws, .long T.wp]) : va_E) = .inr (13, [.ref (x.f .pl), .int S.wc, .long S.ws, .long S.wp])
      rw [h_wc, h_ws, h_wp]
    · show (.inr (5, [.int x.mc, .ref (if T.np = 0 then κ 0 else x.pe), .int (Int32.ofNat T.np)]) : va_E) = .inr (5, [.int x.mc, .ref (if S.np = 0 then κ 0 else x.pe), .int (Int32.ofNat S.np)])
      rw [h_np]
    · show (.inl (ar 8, 10, .inr (.inr (.inr (.inr (fun j9 => if j9 < T.np then some (x.pp j9) else none))))) : va_E) = .inl (ar 8, 10, .inr (.inr (.inr (.inr (fun j9 => if j9 < S.np then some (x.pp j9) else none)))))
      rw [h_np]
  · show cTh ar x T.th j = cTh ar x S.th j
    rw [h_th]
  · show cFr ar x T.fr j = cFr ar x S.fr j
    rw [h_fr]
  · show cTo ar x T.to j = cTo ar x S.to j
    rw [h_to]
  · show cRo ar x T.ro j = cRo ar x S.ro j
    rw [h_ro]
  · show cPg ar x T.pg j = cPg ar x S.pg j
    rw [h_pg]
theorem ov_wwr (hv : ∀ a t, x.b a = some t → x.a t = a) (h : x.b (x.a .wr) = some .wr) (hc : c = .inr (13, [.ref (x.f .pl), .int T.wc, .long T.ws, .long T.wp])) (h_ab : T.ab = S.ab) (h_fc : T.fc = S.fc) (h_cn : T.cn = S.cn) (h_me : T.me = S.me) (h_nt : T.nt = S.nt) (h_nr : T.nr = S.nr) (h_ty : T.ty = S.ty) (h_to : T.to = S.to) (h_ro : T.ro = S.ro) (h_gl : T.gl = S.gl) (h_al : T.al = S.al) (h_re : T.re = S.re) (h_th : T.th = S.th) (h_tc : T.tc = S.tc) (h_rc : T.rc = S.rc) (h_mk : T.mk = S.mk) (h_fr : T.fr = S.fr) (h_fn : T.fn = S.fn) (h_st : T.st = S.st) (h_rs : T.rs = S.rs) (h_an : T.an = S.an) (h_sp : T.sp = S.sp) (h_np : T.np = S.np) (h_pg : T.pg = S.pg) : g_up (ov κ ar x S G) (x.f .wr) c = ov κ ar x T G := by
  refine ov_w (t := .wr) hv h rfl hc (fun t' q => ?_)
  rcases t' with j | j | j | j | j | j
  · rcases j with ⟨⟩ | ⟨⟩ | ⟨⟩ | ⟨⟩ | ⟨⟩ | ⟨⟩ | ⟨⟩ | ⟨⟩ | ⟨⟩ | ⟨⟩ | ⟨⟩ | ⟨⟩ | ⟨⟩
    · show (.inr (14, [.ref (x.f .cl), .ref (x.f .me), .ref (x.f (.ro T.ty)), .int x.ht, .ref (x.f .gl), .ref (x.f .ts), .ref (x.f .fs), .int T.fn, .int T.st, .int T.rs, .long T.an, .int T.sp, .ref (x.f .wr)]) : va_E) = .inr (14, [.ref (x.f .cl), .ref (x.f .me), .ref (x.f (.ro S.ty)), .int x.ht, .ref (x.f .gl), .ref (x.f .ts), .ref (x.f .fs), .int S.fn, .int S.st, .int S.rs, .long S.an, .int S.sp, .ref (x.f .wr)])
      rw [h_ty, h_fn, h_st, h_rs, h_an, h_sp]
    · show (.inr (6, [.ref (x.f .ab), .ref (x.f .fc), .int T.cn]) : va_E) = .inr (6, [.ref (x.f .ab), .ref (x.f .fc), .int S.cn])
      rw [h_cn]
    · show (.inl (ar 0, 12, .inl T.ab) : va_E) = .inl (ar 0, 12, .inl S.ab)
      rw [h_ab]
    · show (.inl (ar 0, 12, .inl T.fc) : va_E) = .inl (ar 0, 12, .inl S.fc)
      rw [h_fc]
    · show (.inl (ar 7, 192, .inr (.inr (.inr (.inr (fun j9 => (T.me j9).map (fun k9 => x.f (.to k9))))))) : va_E) = .inl (ar 7, 192, .inr (.inr (.inr (.inr (fun j9 => (S.me j9).map (fun k9 => x.f (.to k9)))))))
      rw [h_me]
    · show (.inl (ar 1, 8, .inr (.inl T.gl)) : va_E) = .inl (ar 1, 8, .inr (.inl S.gl))
      rw [h_gl]
    · show (.inr (11, [.ref (x.f .al), .ref (x.f .re), .int T.tc, .int T.rc, .int T.mk]) : va_E) = .inr (11, [.ref (x.f .al), .ref (x.f .re), .int S.tc, .int S.rc, .int S.mk])
      rw [h_tc, h_rc, h_mk]
    · show (.inl (ar 6, 60, .inr (.inr (.inr (.inr (fun j9 => (T.al j9).map (fun k9 => x.f (.th k9))))))) : va_E) = .inl (ar 6, 60, .inr (.inr (.inr (.inr (fun j9 => (S.al j9).map (fun k9 => x.f (.th k9)))))))
      rw [h_al]
    · show (.inl (ar 6, 60, .inr (.inr (.inr (.inr (fun j9 => (T.re j9).map (fun k9 => x.f (.th k9))))))) : va_E) = .inl (ar 6, 60, .inr (.inr (.inr (.inr (fun j9 => (S.re j9).map (fun k9 => x.f (.th k9)))))))
      rw [h_re]
    · rfl
    · exact absurd rfl q
    · show (.inr (5, [.int x.mc, .ref (if T.np = 0 then κ 0 else x.pe), .int (Int32.ofNat T.np)]) : va_E) = .inr (5, [.int x.mc, .ref (if S.np = 0 then κ 0 else x.pe), .int (Int32.ofNat S.np)])
      rw [h_np]
    · show (.inl (ar 8, 10, .inr (.inr (.inr (.inr (fun j9 => if j9 < T.np then some (x.pp j9) else none))))) : va_E) = .inl (ar 8, 10, .inr (.inr (.inr (.inr (fun j9 => if j9 < S.np then some (x.pp j9) else none)))))
      rw [h_np]
  · show cTh ar x T.th j = cTh ar x S.th j
    rw [h_th]
  · show cFr ar x T.fr j = cFr ar x S.fr j
    rw [h_fr]
  · show cTo ar x T.to j = cTo ar x S.to j
    rw [h_to]
  · show cRo ar x T.ro j = cRo ar x S.ro j
    rw [h_ro]
  · show cPg ar x T.pg j = cPg ar x S.pg j
    rw [h_pg]
theorem ov_wcm {i : Nat} {v : To} {y : Int32} (hv : ∀ a t, x.b a = some t → x.a t = a) (h : x.b (x.a (.to i)) = some (.to i)) (hc : c = .inr (12, [.int v.c, .int v.s, .int v.a, .int v.t, .ref (x.f (.ro v.q)), .int v.n, .int y])) : g_up (ov κ ar x (S.toS i v) G) (x.f (.to i)) c = ov κ ar (x.pgs (x.zcm (updN x.cm i y))) (S.toS i v) G := by
  refine ov_w (t := .to i) (x' := x.pgs (x.zcm (updN x.cm i y))) hv h rfl ?_ (fun t' q => ?_)
  · rw [hc]
    show _ = (.inr (12, [.int ((S.toS i v).to i).c, .int ((S.toS i v).to i).s, .int ((S.toS i v).to i).a, .int ((S.toS i v).to i).t, .ref (x.f (.ro ((S.toS i v).to i).q)), .int ((S.toS i v).to i).n, .int (updN x.cm i y i)]) : va_E)
    rw [toS_s, updN_s]
  rcases t' with j | j | j | j | j | j
  · rfl
  · rfl
  · rfl
  · by_cases hj : j = i
    · subst hj
      exact absurd rfl q
    · show (.inr (12, [.int ((S.toS i v).to j).c, .int ((S.toS i v).to j).s, .int ((S.toS i v).to j).a, .int ((S.toS i v).to j).t, .ref (x.f (.ro ((S.toS i v).to j).q)), .int ((S.toS i v).to j).n, .int (updN x.cm i y j)]) : va_E) = .inr (12, [.int ((S.toS i v).to j).c, .int ((S.toS i v).to j).s, .int ((S.toS i v).to j).a, .int ((S.toS i v).to j).t, .ref (x.f (.ro ((S.toS i v).to j).q)), .int ((S.toS i v).to j).n, .int (x.cm j)])
      rw [updN_o hj]
  · rfl
  · rfl
theorem ov_wht {y : Int32} (hv : ∀ a t, x.b a = some t → x.a t = a) (h : x.b (x.a .ho) = some .ho) (hc : c = .inr (14, [.ref (x.f .cl), .ref (x.f .me), .ref (x.f (.ro S.ty)), .int y, .ref (x.f .gl), .ref (x.f .ts), .ref (x.f .fs), .int S.fn, .int S.st, .int S.rs, .long S.an, .int S.sp, .ref (x.f .wr)])) : g_up (ov κ ar x S G) (x.f .ho) c = ov κ ar (x.sht y) S G := by
  refine ov_w (t := .ho) (x' := x.sht y) hv h rfl hc (fun t' q => ?_)
  rcases t' with j | j | j | j | j | j
  · rcases j with ⟨⟩ | ⟨⟩ | ⟨⟩ | ⟨⟩ | ⟨⟩ | ⟨⟩ | ⟨⟩ | ⟨⟩ | ⟨⟩ | ⟨⟩ | ⟨⟩ | ⟨⟩ | ⟨⟩
    · exact absurd rfl q
    all_goals rfl
  all_goals rfl
theorem OK.sht {y : Int32} (h : OK x S) : OK (x.sht y) S := h
end OV
/-- how the functions of a state are put together -/
def oc {α β : Type} (e : Option α) (a : β) (f : α → β) : β := match e with
  | none => a
  | some k => f k
theorem oc_n {α β : Type} {e : Option α} {a : β} {f : α → β} (h : e = none) : oc e a f = a := by rw [h]; rfl
theorem oc_s {α β : Type} {e : Option α} {a : β} {f : α → β} {k : α} (h : e = some k) : oc e a f = f k := by rw [h]; rfl
/-- how a method that may throw ends: with an answer, or thrown, and the state then -/
abbrev Rs (α : Type) : Type := (α × Ho) ⊕ (String × Ho)
def rc {α β : Type} (e : Rs α) (f : α → Ho → β) (g : String → Ho → β) : β := match e with
  | .inl q => f q.1 q.2
  | .inr q => g q.1 q.2
theorem rc_v {α β : Type} {e : Rs α} {f : α → Ho → β} {g : String → Ho → β} {r : α} {S : Ho} (h : e = .inl (r, S)) : rc e f g = f r S := by rw [h]; rfl
theorem rc_x {α β : Type} {e : Rs α} {f : α → Ho → β} {g : String → Ho → β} {E : String} {S : Ho} (h : e = .inr (E, S)) : rc e f g = g E S := by rw [h]; rfl
def pc {α β : Type} (e : α × Ho) (f : α → Ho → β) : β := f e.1 e.2
theorem pc_e {α β : Type} {e : α × Ho} {f : α → Ho → β} {r : α} {S : Ho} (h : e = (r, S)) : pc e f = f r S := by rw [h]; rfl
def vc {α β : Type} (e : α) (f : α → β) : β := f e
theorem vc_e {α β : Type} {e : α} {f : α → β} {S : α} (h : e = S) : vc e f = f S := by rw [h]; rfl
/-- how often a counting loop may go round -/
theorem FU_x : ∃ n : Nat, n = 2147483648 := ⟨_, rfl⟩
noncomputable def FU : Nat := Classical.choose FU_x
theorem FU_e : FU = 2147483648 := Classical.choose_spec FU_x
