/-! a house's state, in plain values; where each of its cells lies; the world that holds it -/
abbrev Ro : Type := (Nat → Int32) × (Nat → Int32) × (Nat → Int32) × (Nat → Int32) × (Nat → Int32) × (Int32) × (Int32)
def Ro.l (v : Ro) : Nat → Int32 := v.1
def Ro.f (v : Ro) : Nat → Int32 := v.2.1
def Ro.g (v : Ro) : Nat → Int32 := v.2.2.1
def Ro.d (v : Ro) : Nat → Int32 := v.2.2.2.1
def Ro.q (v : Ro) : Nat → Int32 := v.2.2.2.2.1
def Ro.n (v : Ro) : Int32 := v.2.2.2.2.2.1
def Ro.k (v : Ro) : Int32 := v.2.2.2.2.2.2
def Ro.sl (v : Ro) (y : Nat → Int32) : Ro := (y, v.f, v.g, v.d, v.q, v.n, v.k)
def Ro.sf (v : Ro) (y : Nat → Int32) : Ro := (v.l, y, v.g, v.d, v.q, v.n, v.k)
def Ro.sg (v : Ro) (y : Nat → Int32) : Ro := (v.l, v.f, y, v.d, v.q, v.n, v.k)
def Ro.sd (v : Ro) (y : Nat → Int32) : Ro := (v.l, v.f, v.g, y, v.q, v.n, v.k)
def Ro.sq (v : Ro) (y : Nat → Int32) : Ro := (v.l, v.f, v.g, v.d, y, v.n, v.k)
def Ro.sn (v : Ro) (y : Int32) : Ro := (v.l, v.f, v.g, v.d, v.q, y, v.k)
def Ro.sk (v : Ro) (y : Int32) : Ro := (v.l, v.f, v.g, v.d, v.q, v.n, y)
abbrev To : Type := (Int32) × (Int32) × (Int32) × (Int32) × (Int32)
def To.c (v : To) : Int32 := v.1
def To.s (v : To) : Int32 := v.2.1
def To.a (v : To) : Int32 := v.2.2.1
def To.t (v : To) : Int32 := v.2.2.2.1
def To.n (v : To) : Int32 := v.2.2.2.2
def To.sc (v : To) (y : Int32) : To := (y, v.s, v.a, v.t, v.n)
def To.ss (v : To) (y : Int32) : To := (v.c, y, v.a, v.t, v.n)
def To.sa (v : To) (y : Int32) : To := (v.c, v.s, y, v.t, v.n)
def To.st (v : To) (y : Int32) : To := (v.c, v.s, v.a, y, v.n)
def To.sn (v : To) (y : Int32) : To := (v.c, v.s, v.a, v.t, y)
abbrev Th : Type := (Nat → Int64) × (Int32) × (Int32) × (Int32) × (Int32)
def Th.p (v : Th) : Nat → Int64 := v.1
def Th.n (v : Th) : Int32 := v.2.1
def Th.c (v : Th) : Int32 := v.2.2.1
def Th.z (v : Th) : Int32 := v.2.2.2.1
def Th.r (v : Th) : Int32 := v.2.2.2.2
def Th.sp (v : Th) (y : Nat → Int64) : Th := (y, v.n, v.c, v.z, v.r)
def Th.sn (v : Th) (y : Int32) : Th := (v.p, y, v.c, v.z, v.r)
def Th.sc (v : Th) (y : Int32) : Th := (v.p, v.n, y, v.z, v.r)
def Th.sz (v : Th) (y : Int32) : Th := (v.p, v.n, v.c, y, v.r)
def Th.sr (v : Th) (y : Int32) : Th := (v.p, v.n, v.c, v.z, y)
abbrev Fr : Type := (Nat → Int64) × (Nat → Int64) × (Nat → Int64) × (Option Nat) × (Int64) × (Int32) × (Int32)
def Fr.a (v : Fr) : Nat → Int64 := v.1
def Fr.t (v : Fr) : Nat → Int64 := v.2.1
def Fr.p (v : Fr) : Nat → Int64 := v.2.2.1
def Fr.o (v : Fr) : Option Nat := v.2.2.2.1
def Fr.v (v : Fr) : Int64 := v.2.2.2.2.1
def Fr.w (v : Fr) : Int32 := v.2.2.2.2.2.1
def Fr.d (v : Fr) : Int32 := v.2.2.2.2.2.2
def Fr.sa (v : Fr) (y : Nat → Int64) : Fr := (y, v.t, v.p, v.o, v.v, v.w, v.d)
def Fr.st (v : Fr) (y : Nat → Int64) : Fr := (v.a, y, v.p, v.o, v.v, v.w, v.d)
def Fr.sp (v : Fr) (y : Nat → Int64) : Fr := (v.a, v.t, y, v.o, v.v, v.w, v.d)
def Fr.so (v : Fr) (y : Option Nat) : Fr := (v.a, v.t, v.p, y, v.v, v.w, v.d)
def Fr.sv (v : Fr) (y : Int64) : Fr := (v.a, v.t, v.p, v.o, y, v.w, v.d)
def Fr.sw (v : Fr) (y : Int32) : Fr := (v.a, v.t, v.p, v.o, v.v, y, v.d)
def Fr.sd (v : Fr) (y : Int32) : Fr := (v.a, v.t, v.p, v.o, v.v, v.w, y)
abbrev Ho : Type := (Nat → Int32) × (Nat → Int32) × (Int32) × (Nat → Option Nat) × (Nat) × (Nat → To) × (Nat → Ro) × (Nat → Int64) × (Nat → Option (Fin 60)) × (Nat → Option (Fin 60)) × (Fin 60 → Th) × (Int32) × (Int32) × (Int32) × (Fin 12 → Fr) × (Int32) × (Int32) × (Int32) × (Int64) × (Int32) × (Nat) × (Nat → Nat → Int64) × (Int32) × (Int64) × (Int64)
def Ho.ab (v : Ho) : Nat → Int32 := v.1
def Ho.fc (v : Ho) : Nat → Int32 := v.2.1
def Ho.cn (v : Ho) : Int32 := v.2.2.1
def Ho.me (v : Ho) : Nat → Option Nat := v.2.2.2.1
def Ho.nt (v : Ho) : Nat := v.2.2.2.2.1
def Ho.to (v : Ho) : Nat → To := v.2.2.2.2.2.1
def Ho.ro (v : Ho) : Nat → Ro := v.2.2.2.2.2.2.1
def Ho.gl (v : Ho) : Nat → Int64 := v.2.2.2.2.2.2.2.1
def Ho.al (v : Ho) : Nat → Option (Fin 60) := v.2.2.2.2.2.2.2.2.1
def Ho.re (v : Ho) : Nat → Option (Fin 60) := v.2.2.2.2.2.2.2.2.2.1
def Ho.th (v : Ho) : Fin 60 → Th := v.2.2.2.2.2.2.2.2.2.2.1
def Ho.tc (v : Ho) : Int32 := v.2.2.2.2.2.2.2.2.2.2.2.1
def Ho.rc (v : Ho) : Int32 := v.2.2.2.2.2.2.2.2.2.2.2.2.1
def Ho.mk (v : Ho) : Int32 := v.2.2.2.2.2.2.2.2.2.2.2.2.2.1
def Ho.fr (v : Ho) : Fin 12 → Fr := v.2.2.2.2.2.2.2.2.2.2.2.2.2.2.1
def Ho.fn (v : Ho) : Int32 := v.2.2.2.2.2.2.2.2.2.2.2.2.2.2.2.1
def Ho.st (v : Ho) : Int32 := v.2.2.2.2.2.2.2.2.2.2.2.2.2.2.2.2.1
def Ho.rs (v : Ho) : Int32 := v.2.2.2.2.2.2.2.2.2.2.2.2.2.2.2.2.2.1
def Ho.an (v : Ho) : Int64 := v.2.2.2.2.2.2.2.2.2.2.2.2.2.2.2.2.2.2.1
def Ho.sp (v : Ho) : Int32 := v.2.2.2.2.2.2.2.2.2.2.2.2.2.2.2.2.2.2.2.1
def Ho.np (v : Ho) : Nat := v.2.2.2.2.2.2.2.2.2.2.2.2.2.2.2.2.2.2.2.2.1
def Ho.pg (v : Ho) : Nat → Nat → Int64 := v.2.2.2.2.2.2.2.2.2.2.2.2.2.2.2.2.2.2.2.2.2.1
def Ho.wc (v : Ho) : Int32 := v.2.2.2.2.2.2.2.2.2.2.2.2.2.2.2.2.2.2.2.2.2.2.1
def Ho.ws (v : Ho) : Int64 := v.2.2.2.2.2.2.2.2.2.2.2.2.2.2.2.2.2.2.2.2.2.2.2.1
def Ho.wp (v : Ho) : Int64 := v.2.2.2.2.2.2.2.2.2.2.2.2.2.2.2.2.2.2.2.2.2.2.2.2
def Ho.sab (v : Ho) (y : Nat → Int32) : Ho := (y, v.fc, v.cn, v.me, v.nt, v.to, v.ro, v.gl, v.al, v.re, v.th, v.tc, v.rc, v.mk, v.fr, v.fn, v.st, v.rs, v.an, v.sp, v.np, v.pg, v.wc, v.ws, v.wp)
def Ho.sfc (v : Ho) (y : Nat → Int32) : Ho := (v.ab, y, v.cn, v.me, v.nt, v.to, v.ro, v.gl, v.al, v.re, v.th, v.tc, v.rc, v.mk, v.fr, v.fn, v.st, v.rs, v.an, v.sp, v.np, v.pg, v.wc, v.ws, v.wp)
def Ho.scn (v : Ho) (y : Int32) : Ho := (v.ab, v.fc, y, v.me, v.nt, v.to, v.ro, v.gl, v.al, v.re, v.th, v.tc, v.rc, v.mk, v.fr, v.fn, v.st, v.rs, v.an, v.sp, v.np, v.pg, v.wc, v.ws, v.wp)
def Ho.sme (v : Ho) (y : Nat → Option Nat) : Ho := (v.ab, v.fc, v.cn, y, v.nt, v.to, v.ro, v.gl, v.al, v.re, v.th, v.tc, v.rc, v.mk, v.fr, v.fn, v.st, v.rs, v.an, v.sp, v.np, v.pg, v.wc, v.ws, v.wp)
def Ho.snt (v : Ho) (y : Nat) : Ho := (v.ab, v.fc, v.cn, v.me, y, v.to, v.ro, v.gl, v.al, v.re, v.th, v.tc, v.rc, v.mk, v.fr, v.fn, v.st, v.rs, v.an, v.sp, v.np, v.pg, v.wc, v.ws, v.wp)
def Ho.sto (v : Ho) (y : Nat → To) : Ho := (v.ab, v.fc, v.cn, v.me, v.nt, y, v.ro, v.gl, v.al, v.re, v.th, v.tc, v.rc, v.mk, v.fr, v.fn, v.st, v.rs, v.an, v.sp, v.np, v.pg, v.wc, v.ws, v.wp)
def Ho.sro (v : Ho) (y : Nat → Ro) : Ho := (v.ab, v.fc, v.cn, v.me, v.nt, v.to, y, v.gl, v.al, v.re, v.th, v.tc, v.rc, v.mk, v.fr, v.fn, v.st, v.rs, v.an, v.sp, v.np, v.pg, v.wc, v.ws, v.wp)
def Ho.sgl (v : Ho) (y : Nat → Int64) : Ho := (v.ab, v.fc, v.cn, v.me, v.nt, v.to, v.ro, y, v.al, v.re, v.th, v.tc, v.rc, v.mk, v.fr, v.fn, v.st, v.rs, v.an, v.sp, v.np, v.pg, v.wc, v.ws, v.wp)
def Ho.sal (v : Ho) (y : Nat → Option (Fin 60)) : Ho := (v.ab, v.fc, v.cn, v.me, v.nt, v.to, v.ro, v.gl, y, v.re, v.th, v.tc, v.rc, v.mk, v.fr, v.fn, v.st, v.rs, v.an, v.sp, v.np, v.pg, v.wc, v.ws, v.wp)
def Ho.sre (v : Ho) (y : Nat → Option (Fin 60)) : Ho := (v.ab, v.fc, v.cn, v.me, v.nt, v.to, v.ro, v.gl, v.al, y, v.th, v.tc, v.rc, v.mk, v.fr, v.fn, v.st, v.rs, v.an, v.sp, v.np, v.pg, v.wc, v.ws, v.wp)
def Ho.sth (v : Ho) (y : Fin 60 → Th) : Ho := (v.ab, v.fc, v.cn, v.me, v.nt, v.to, v.ro, v.gl, v.al, v.re, y, v.tc, v.rc, v.mk, v.fr, v.fn, v.st, v.rs, v.an, v.sp, v.np, v.pg, v.wc, v.ws, v.wp)
def Ho.stc (v : Ho) (y : Int32) : Ho := (v.ab, v.fc, v.cn, v.me, v.nt, v.to, v.ro, v.gl, v.al, v.re, v.th, y, v.rc, v.mk, v.fr, v.fn, v.st, v.rs, v.an, v.sp, v.np, v.pg, v.wc, v.ws, v.wp)
def Ho.src (v : Ho) (y : Int32) : Ho := (v.ab, v.fc, v.cn, v.me, v.nt, v.to, v.ro, v.gl, v.al, v.re, v.th, v.tc, y, v.mk, v.fr, v.fn, v.st, v.rs, v.an, v.sp, v.np, v.pg, v.wc, v.ws, v.wp)
def Ho.smk (v : Ho) (y : Int32) : Ho := (v.ab, v.fc, v.cn, v.me, v.nt, v.to, v.ro, v.gl, v.al, v.re, v.th, v.tc, v.rc, y, v.fr, v.fn, v.st, v.rs, v.an, v.sp, v.np, v.pg, v.wc, v.ws, v.wp)
def Ho.sfr (v : Ho) (y : Fin 12 → Fr) : Ho := (v.ab, v.fc, v.cn, v.me, v.nt, v.to, v.ro, v.gl, v.al, v.re, v.th, v.tc, v.rc, v.mk, y, v.fn, v.st, v.rs, v.an, v.sp, v.np, v.pg, v.wc, v.ws, v.wp)
def Ho.sfn (v : Ho) (y : Int32) : Ho := (v.ab, v.fc, v.cn, v.me, v.nt, v.to, v.ro, v.gl, v.al, v.re, v.th, v.tc, v.rc, v.mk, v.fr, y, v.st, v.rs, v.an, v.sp, v.np, v.pg, v.wc, v.ws, v.wp)
def Ho.sst (v : Ho) (y : Int32) : Ho := (v.ab, v.fc, v.cn, v.me, v.nt, v.to, v.ro, v.gl, v.al, v.re, v.th, v.tc, v.rc, v.mk, v.fr, v.fn, y, v.rs, v.an, v.sp, v.np, v.pg, v.wc, v.ws, v.wp)
def Ho.srs (v : Ho) (y : Int32) : Ho := (v.ab, v.fc, v.cn, v.me, v.nt, v.to, v.ro, v.gl, v.al, v.re, v.th, v.tc, v.rc, v.mk, v.fr, v.fn, v.st, y, v.an, v.sp, v.np, v.pg, v.wc, v.ws, v.wp)
def Ho.san (v : Ho) (y : Int64) : Ho := (v.ab, v.fc, v.cn, v.me, v.nt, v.to, v.ro, v.gl, v.al, v.re, v.th, v.tc, v.rc, v.mk, v.fr, v.fn, v.st, v.rs, y, v.sp, v.np, v.pg, v.wc, v.ws, v.wp)
def Ho.ssp (v : Ho) (y : Int32) : Ho := (v.ab, v.fc, v.cn, v.me, v.nt, v.to, v.ro, v.gl, v.al, v.re, v.th, v.tc, v.rc, v.mk, v.fr, v.fn, v.st, v.rs, v.an, y, v.np, v.pg, v.wc, v.ws, v.wp)
def Ho.snp (v : Ho) (y : Nat) : Ho := (v.ab, v.fc, v.cn, v.me, v.nt, v.to, v.ro, v.gl, v.al, v.re, v.th, v.tc, v.rc, v.mk, v.fr, v.fn, v.st, v.rs, v.an, v.sp, y, v.pg, v.wc, v.ws, v.wp)
def Ho.spg (v : Ho) (y : Nat → Nat → Int64) : Ho := (v.ab, v.fc, v.cn, v.me, v.nt, v.to, v.ro, v.gl, v.al, v.re, v.th, v.tc, v.rc, v.mk, v.fr, v.fn, v.st, v.rs, v.an, v.sp, v.np, y, v.wc, v.ws, v.wp)
def Ho.swc (v : Ho) (y : Int32) : Ho := (v.ab, v.fc, v.cn, v.me, v.nt, v.to, v.ro, v.gl, v.al, v.re, v.th, v.tc, v.rc, v.mk, v.fr, v.fn, v.st, v.rs, v.an, v.sp, v.np, v.pg, y, v.ws, v.wp)
def Ho.sws (v : Ho) (y : Int64) : Ho := (v.ab, v.fc, v.cn, v.me, v.nt, v.to, v.ro, v.gl, v.al, v.re, v.th, v.tc, v.rc, v.mk, v.fr, v.fn, v.st, v.rs, v.an, v.sp, v.np, v.pg, v.wc, y, v.wp)
def Ho.swp (v : Ho) (y : Int64) : Ho := (v.ab, v.fc, v.cn, v.me, v.nt, v.to, v.ro, v.gl, v.al, v.re, v.th, v.tc, v.rc, v.mk, v.fr, v.fn, v.st, v.rs, v.an, v.sp, v.np, v.pg, v.wc, v.ws, y)
abbrev Tg : Type := Unit ⊕ Unit ⊕ Unit ⊕ Unit ⊕ Unit ⊕ Unit ⊕ Unit ⊕ Unit ⊕ Unit ⊕ Unit ⊕ Unit ⊕ Unit ⊕ Unit ⊕ Fin 60 ⊕ Fin 60 ⊕ Fin 12 ⊕ Fin 12 ⊕ Fin 12 ⊕ Fin 12 ⊕ Nat ⊕ Nat ⊕ Nat ⊕ Nat ⊕ Nat ⊕ Nat ⊕ Nat ⊕ Nat ⊕ Nat
def Tg.ho : Tg := (.inl ())
def Tg.cl : Tg := (.inr (.inl ()))
def Tg.ab : Tg := (.inr (.inr (.inl ())))
def Tg.fc : Tg := (.inr (.inr (.inr (.inl ()))))
def Tg.me : Tg := (.inr (.inr (.inr (.inr (.inl ())))))
def Tg.gl : Tg := (.inr (.inr (.inr (.inr (.inr (.inl ()))))))
def Tg.ts : Tg := (.inr (.inr (.inr (.inr (.inr (.inr (.inl ())))))))
def Tg.al : Tg := (.inr (.inr (.inr (.inr (.inr (.inr (.inr (.inl ()))))))))
def Tg.re : Tg := (.inr (.inr (.inr (.inr (.inr (.inr (.inr (.inr (.inl ())))))))))
def Tg.fs : Tg := (.inr (.inr (.inr (.inr (.inr (.inr (.inr (.inr (.inr (.inl ()))))))))))
def Tg.wr : Tg := (.inr (.inr (.inr (.inr (.inr (.inr (.inr (.inr (.inr (.inr (.inl ())))))))))))
def Tg.pl : Tg := (.inr (.inr (.inr (.inr (.inr (.inr (.inr (.inr (.inr (.inr (.inr (.inl ()))))))))))))
def Tg.el : Tg := (.inr (.inr (.inr (.inr (.inr (.inr (.inr (.inr (.inr (.inr (.inr (.inr (.inl ())))))))))))))
def Tg.th (i : Fin 60) : Tg := (.inr (.inr (.inr (.inr (.inr (.inr (.inr (.inr (.inr (.inr (.inr (.inr (.inr (.inl i))))))))))))))
def Tg.tp (i : Fin 60) : Tg := (.inr (.inr (.inr (.inr (.inr (.inr (.inr (.inr (.inr (.inr (.inr (.inr (.inr (.inr (.inl i)))))))))))))))
def Tg.fr (i : Fin 12) : Tg := (.inr (.inr (.inr (.inr (.inr (.inr (.inr (.inr (.inr (.inr (.inr (.inr (.inr (.inr (.inr (.inl i))))))))))))))))
def Tg.fa (i : Fin 12) : Tg := (.inr (.inr (.inr (.inr (.inr (.inr (.inr (.inr (.inr (.inr (.inr (.inr (.inr (.inr (.inr (.inr (.inl i)))))))))))))))))
def Tg.ft (i : Fin 12) : Tg := (.inr (.inr (.inr (.inr (.inr (.inr (.inr (.inr (.inr (.inr (.inr (.inr (.inr (.inr (.inr (.inr (.inr (.inl i))))))))))))))))))
def Tg.fp (i : Fin 12) : Tg := (.inr (.inr (.inr (.inr (.inr (.inr (.inr (.inr (.inr (.inr (.inr (.inr (.inr (.inr (.inr (.inr (.inr (.inr (.inl i)))))))))))))))))))
def Tg.to (i : Nat) : Tg := (.inr (.inr (.inr (.inr (.inr (.inr (.inr (.inr (.inr (.inr (.inr (.inr (.inr (.inr (.inr (.inr (.inr (.inr (.inr (.inl i))))))))))))))))))))
def Tg.ro (i : Nat) : Tg := (.inr (.inr (.inr (.inr (.inr (.inr (.inr (.inr (.inr (.inr (.inr (.inr (.inr (.inr (.inr (.inr (.inr (.inr (.inr (.inr (.inl i)))))))))))))))))))))
def Tg.rl (i : Nat) : Tg := (.inr (.inr (.inr (.inr (.inr (.inr (.inr (.inr (.inr (.inr (.inr (.inr (.inr (.inr (.inr (.inr (.inr (.inr (.inr (.inr (.inr (.inl i))))))))))))))))))))))
def Tg.rf (i : Nat) : Tg := (.inr (.inr (.inr (.inr (.inr (.inr (.inr (.inr (.inr (.inr (.inr (.inr (.inr (.inr (.inr (.inr (.inr (.inr (.inr (.inr (.inr (.inr (.inl i)))))))))))))))))))))))
def Tg.rg (i : Nat) : Tg := (.inr (.inr (.inr (.inr (.inr (.inr (.inr (.inr (.inr (.inr (.inr (.inr (.inr (.inr (.inr (.inr (.inr (.inr (.inr (.inr (.inr (.inr (.inr (.inl i))))))))))))))))))))))))
def Tg.rd (i : Nat) : Tg := (.inr (.inr (.inr (.inr (.inr (.inr (.inr (.inr (.inr (.inr (.inr (.inr (.inr (.inr (.inr (.inr (.inr (.inr (.inr (.inr (.inr (.inr (.inr (.inr (.inl i)))))))))))))))))))))))))
def Tg.rq (i : Nat) : Tg := (.inr (.inr (.inr (.inr (.inr (.inr (.inr (.inr (.inr (.inr (.inr (.inr (.inr (.inr (.inr (.inr (.inr (.inr (.inr (.inr (.inr (.inr (.inr (.inr (.inr (.inl i))))))))))))))))))))))))))
def Tg.pg (i : Nat) : Tg := (.inr (.inr (.inr (.inr (.inr (.inr (.inr (.inr (.inr (.inr (.inr (.inr (.inr (.inr (.inr (.inr (.inr (.inr (.inr (.inr (.inr (.inr (.inr (.inr (.inr (.inr (.inl i)))))))))))))))))))))))))))
def Tg.pv (i : Nat) : Tg := (.inr (.inr (.inr (.inr (.inr (.inr (.inr (.inr (.inr (.inr (.inr (.inr (.inr (.inr (.inr (.inr (.inr (.inr (.inr (.inr (.inr (.inr (.inr (.inr (.inr (.inr (.inr i)))))))))))))))))))))))))))
abbrev Xo : Type := (Tg → Nat) × (Nat → Option Tg) × (Nat → Int32) × (Int32) × (Nat) × (Int32)
def Xo.f (v : Xo) : Tg → Nat := v.1
def Xo.b (v : Xo) : Nat → Option Tg := v.2.1
def Xo.cm (v : Xo) : Nat → Int32 := v.2.2.1
def Xo.ht (v : Xo) : Int32 := v.2.2.2.1
def Xo.ec (v : Xo) : Nat := v.2.2.2.2.1
def Xo.mc (v : Xo) : Int32 := v.2.2.2.2.2
def Xo.sf (v : Xo) (y : Tg → Nat) : Xo := (y, v.b, v.cm, v.ht, v.ec, v.mc)
def Xo.sb (v : Xo) (y : Nat → Option Tg) : Xo := (v.f, y, v.cm, v.ht, v.ec, v.mc)
def Xo.scm (v : Xo) (y : Nat → Int32) : Xo := (v.f, v.b, y, v.ht, v.ec, v.mc)
def Xo.sht (v : Xo) (y : Int32) : Xo := (v.f, v.b, v.cm, y, v.ec, v.mc)
def Xo.sec (v : Xo) (y : Nat) : Xo := (v.f, v.b, v.cm, v.ht, y, v.mc)
def Xo.smc (v : Xo) (y : Int32) : Xo := (v.f, v.b, v.cm, v.ht, v.ec, y)
def fF (k : Nat) : Option (Fin 12) := if h : k < 12 then some ⟨k, h⟩ else none
def updF {n : Nat} {α : Type} (f : Fin n → α) (i : Fin n) (v : α) : Fin n → α := fun j => if j = i then v else f j
def updN {α : Type} (f : Nat → α) (i : Nat) (v : α) : Nat → α := fun j => if j = i then v else f j
theorem updF_s {n : Nat} {α : Type} {f : Fin n → α} {i : Fin n} {v : α} : updF f i v i = v := if_pos rfl
theorem updF_o {n : Nat} {α : Type} {f : Fin n → α} {i j : Fin n} {v : α} (h : j ≠ i) : updF f i v j = f j := if_neg h
theorem updN_s {α : Type} {f : Nat → α} {i : Nat} {v : α} : updN f i v i = v := if_pos rfl
theorem updN_o {α : Type} {f : Nat → α} {i j : Nat} {v : α} (h : j ≠ i) : updN f i v j = f j := if_neg h
theorem updF_id {n : Nat} {α : Type} {f : Fin n → α} {i : Fin n} : updF f i (f i) = f := by
  funext j
  by_cases h : j = i
  · subst h; exact updF_s
  · exact updF_o h
theorem updN_id {α : Type} {f : Nat → α} {i : Nat} : updN f i (f i) = f := by
  funext j
  by_cases h : j = i
  · subst h; exact updN_s
  · exact updN_o h
theorem updF_2 {n : Nat} {α : Type} {f : Fin n → α} {i : Fin n} {v u : α} : updF (updF f i v) i u = updF f i u := by
  funext j
  by_cases h : j = i
  · subst h; rw [updF_s, updF_s]
  · rw [updF_o h, updF_o h, updF_o h]
theorem updN_2 {α : Type} {f : Nat → α} {i : Nat} {v u : α} : updN (updN f i v) i u = updN f i u := by
  funext j
  by_cases h : j = i
  · subst h; rw [updN_s, updN_s]
  · rw [updN_o h, updN_o h, updN_o h]
/-- one thing, one frame, one method, one list of rows set anew -/
def Ho.frS (S : Ho) (i : Fin 12) (v : Fr) : Ho := S.sfr (updF S.fr i v)
theorem frS_id {S : Ho} {i : Fin 12} : S.frS i (S.fr i) = S := by
  unfold Ho.frS; rw [updF_id]; rfl
theorem frS_s {S : Ho} {i : Fin 12} {v : Fr} : (S.frS i v).fr i = v := updF_s
theorem frS_o {S : Ho} {i j : Fin 12} {v : Fr} (h : j ≠ i) : (S.frS i v).fr j = S.fr j := updF_o h
theorem frS_2 {S : Ho} {i : Fin 12} {v u : Fr} : (S.frS i v).frS i u = S.frS i u := by
  show S.sfr (updF (updF S.fr i v) i u) = S.sfr (updF S.fr i u)
  rw [updF_2]
def Ho.thS (S : Ho) (i : Fin 60) (v : Th) : Ho := S.sth (updF S.th i v)
theorem thS_id {S : Ho} {i : Fin 60} : S.thS i (S.th i) = S := by
  unfold Ho.thS; rw [updF_id]; rfl
theorem thS_s {S : Ho} {i : Fin 60} {v : Th} : (S.thS i v).th i = v := updF_s
theorem thS_o {S : Ho} {i j : Fin 60} {v : Th} (h : j ≠ i) : (S.thS i v).th j = S.th j := updF_o h
theorem thS_2 {S : Ho} {i : Fin 60} {v u : Th} : (S.thS i v).thS i u = S.thS i u := by
  show S.sth (updF (updF S.th i v) i u) = S.sth (updF S.th i u)
  rw [updF_2]
def Ho.toS (S : Ho) (i : Nat) (v : To) : Ho := S.sto (updN S.to i v)
theorem toS_id {S : Ho} {i : Nat} : S.toS i (S.to i) = S := by
  unfold Ho.toS; rw [updN_id]; rfl
theorem toS_s {S : Ho} {i : Nat} {v : To} : (S.toS i v).to i = v := updN_s
theorem toS_o {S : Ho} {i j : Nat} {v : To} (h : j ≠ i) : (S.toS i v).to j = S.to j := updN_o h
theorem toS_2 {S : Ho} {i : Nat} {v u : To} : (S.toS i v).toS i u = S.toS i u := by
  show S.sto (updN (updN S.to i v) i u) = S.sto (updN S.to i u)
  rw [updN_2]
def Ho.roS (S : Ho) (i : Nat) (v : Ro) : Ho := S.sro (updN S.ro i v)
theorem roS_id {S : Ho} {i : Nat} : S.roS i (S.ro i) = S := by
  unfold Ho.roS; rw [updN_id]; rfl
theorem roS_s {S : Ho} {i : Nat} {v : Ro} : (S.roS i v).ro i = v := updN_s
theorem roS_o {S : Ho} {i j : Nat} {v : Ro} (h : j ≠ i) : (S.roS i v).ro j = S.ro j := updN_o h
theorem roS_2 {S : Ho} {i : Nat} {v u : Ro} : (S.roS i v).roS i u = S.roS i u := by
  show S.sro (updN (updN S.ro i v) i u) = S.sro (updN S.ro i u)
  rw [updN_2]
/-- which cells there are -/
def vl (S : Ho) : Tg → Bool
  | (.inl ()) => true
  | (.inr (.inl ())) => true
  | (.inr (.inr (.inl ()))) => true
  | (.inr (.inr (.inr (.inl ())))) => true
  | (.inr (.inr (.inr (.inr (.inl ()))))) => true
  | (.inr (.inr (.inr (.inr (.inr (.inl ())))))) => true
  | (.inr (.inr (.inr (.inr (.inr (.inr (.inl ()))))))) => true
  | (.inr (.inr (.inr (.inr (.inr (.inr (.inr (.inl ())))))))) => true
  | (.inr (.inr (.inr (.inr (.inr (.inr (.inr (.inr (.inl ()))))))))) => true
  | (.inr (.inr (.inr (.inr (.inr (.inr (.inr (.inr (.inr (.inl ())))))))))) => true
  | (.inr (.inr (.inr (.inr (.inr (.inr (.inr (.inr (.inr (.inr (.inl ()))))))))))) => true
  | (.inr (.inr (.inr (.inr (.inr (.inr (.inr (.inr (.inr (.inr (.inr (.inl ())))))))))))) => true
  | (.inr (.inr (.inr (.inr (.inr (.inr (.inr (.inr (.inr (.inr (.inr (.inr (.inl ()))))))))))))) => decide (0 < S.np)
  | (.inr (.inr (.inr (.inr (.inr (.inr (.inr (.inr (.inr (.inr (.inr (.inr (.inr (.inl _)))))))))))))) => true
  | (.inr (.inr (.inr (.inr (.inr (.inr (.inr (.inr (.inr (.inr (.inr (.inr (.inr (.inr (.inl _))))))))))))))) => true
  | (.inr (.inr (.inr (.inr (.inr (.inr (.inr (.inr (.inr (.inr (.inr (.inr (.inr (.inr (.inr (.inl _)))))))))))))))) => true
  | (.inr (.inr (.inr (.inr (.inr (.inr (.inr (.inr (.inr (.inr (.inr (.inr (.inr (.inr (.inr (.inr (.inl _))))))))))))))))) => true
  | (.inr (.inr (.inr (.inr (.inr (.inr (.inr (.inr (.inr (.inr (.inr (.inr (.inr (.inr (.inr (.inr (.inr (.inl _)))))))))))))))))) => true
  | (.inr (.inr (.inr (.inr (.inr (.inr (.inr (.inr (.inr (.inr (.inr (.inr (.inr (.inr (.inr (.inr (.inr (.inr (.inl _))))))))))))))))))) => true
  | (.inr (.inr (.inr (.inr (.inr (.inr (.inr (.inr (.inr (.inr (.inr (.inr (.inr (.inr (.inr (.inr (.inr (.inr (.inr (.inl i)))))))))))))))))))) => decide (i < S.nt)
  | (.inr (.inr (.inr (.inr (.inr (.inr (.inr (.inr (.inr (.inr (.inr (.inr (.inr (.inr (.inr (.inr (.inr (.inr (.inr (.inr (.inl i))))))))))))))))))))) => decide (i ≤ S.nt)
  | (.inr (.inr (.inr (.inr (.inr (.inr (.inr (.inr (.inr (.inr (.inr (.inr (.inr (.inr (.inr (.inr (.inr (.inr (.inr (.inr (.inr (.inl i)))))))))))))))))))))) => decide (i ≤ S.nt)
  | (.inr (.inr (.inr (.inr (.inr (.inr (.inr (.inr (.inr (.inr (.inr (.inr (.inr (.inr (.inr (.inr (.inr (.inr (.inr (.inr (.inr (.inr (.inl i))))))))))))))))))))))) => decide (i ≤ S.nt)
  | (.inr (.inr (.inr (.inr (.inr (.inr (.inr (.inr (.inr (.inr (.inr (.inr (.inr (.inr (.inr (.inr (.inr (.inr (.inr (.inr (.inr (.inr (.inr (.inl i)))))))))))))))))))))))) => decide (i ≤ S.nt)
  | (.inr (.inr (.inr (.inr (.inr (.inr (.inr (.inr (.inr (.inr (.inr (.inr (.inr (.inr (.inr (.inr (.inr (.inr (.inr (.inr (.inr (.inr (.inr (.inr (.inl i))))))))))))))))))))))))) => decide (i ≤ S.nt)
  | (.inr (.inr (.inr (.inr (.inr (.inr (.inr (.inr (.inr (.inr (.inr (.inr (.inr (.inr (.inr (.inr (.inr (.inr (.inr (.inr (.inr (.inr (.inr (.inr (.inr (.inl i)))))))))))))))))))))))))) => decide (i ≤ S.nt)
  | (.inr (.inr (.inr (.inr (.inr (.inr (.inr (.inr (.inr (.inr (.inr (.inr (.inr (.inr (.inr (.inr (.inr (.inr (.inr (.inr (.inr (.inr (.inr (.inr (.inr (.inr (.inl i))))))))))))))))))))))))))) => decide (i < S.np)
  | (.inr (.inr (.inr (.inr (.inr (.inr (.inr (.inr (.inr (.inr (.inr (.inr (.inr (.inr (.inr (.inr (.inr (.inr (.inr (.inr (.inr (.inr (.inr (.inr (.inr (.inr (.inr i))))))))))))))))))))))))))) => decide (i < S.np)
/-- what a cell holds -/
def cellH (κ : Nat → Nat) (ar : Nat → ClassId) (x : Xo) (S : Ho) : Tg → va_E
  | (.inl ()) => .inr (14, [.ref (x.f .cl), .ref (x.f .me), .ref (x.f (.ro S.nt)), .int x.ht, .ref (x.f .gl), .ref (x.f .ts), .ref (x.f .fs), .int S.fn, .int S.st, .int S.rs, .long S.an, .int S.sp, .ref (x.f .wr)])
  | (.inr (.inl ())) => .inr (6, [.ref (x.f .ab), .ref (x.f .fc), .int S.cn])
  | (.inr (.inr (.inl ()))) => .inl (ar 0, 12, .inl S.ab)
  | (.inr (.inr (.inr (.inl ())))) => .inl (ar 0, 12, .inl S.fc)
  | (.inr (.inr (.inr (.inr (.inl ()))))) => .inl (ar 7, 192, .inr (.inr (.inr (.inr (fun j9 => (S.me j9).map (fun k9 => x.f (.to k9)))))))
  | (.inr (.inr (.inr (.inr (.inr (.inl ())))))) => .inl (ar 1, 8, .inr (.inl S.gl))
  | (.inr (.inr (.inr (.inr (.inr (.inr (.inl ()))))))) => .inr (11, [.ref (x.f .al), .ref (x.f .re), .int S.tc, .int S.rc, .int S.mk])
  | (.inr (.inr (.inr (.inr (.inr (.inr (.inr (.inl ())))))))) => .inl (ar 6, 60, .inr (.inr (.inr (.inr (fun j9 => (S.al j9).map (fun k9 => x.f (.th k9)))))))
  | (.inr (.inr (.inr (.inr (.inr (.inr (.inr (.inr (.inl ()))))))))) => .inl (ar 6, 60, .inr (.inr (.inr (.inr (fun j9 => (S.re j9).map (fun k9 => x.f (.th k9)))))))
  | (.inr (.inr (.inr (.inr (.inr (.inr (.inr (.inr (.inr (.inl ())))))))))) => .inl (ar 5, 12, .inr (.inr (.inr (.inr (fun j9 => (fF j9).map (fun k9 => x.f (.fr k9)))))))
  | (.inr (.inr (.inr (.inr (.inr (.inr (.inr (.inr (.inr (.inr (.inl ()))))))))))) => .inr (13, [.ref (x.f .pl), .int S.wc, .long S.ws, .long S.wp])
  | (.inr (.inr (.inr (.inr (.inr (.inr (.inr (.inr (.inr (.inr (.inr (.inl ())))))))))))) => .inr (5, [.int x.mc, .ref (if S.np = 0 then κ 0 else x.f .el), .int (Int32.ofNat S.np)])
  | (.inr (.inr (.inr (.inr (.inr (.inr (.inr (.inr (.inr (.inr (.inr (.inr (.inl ()))))))))))))) => .inl (ar 8, x.ec, .inr (.inr (.inr (.inr (fun j9 => if j9 < S.np then some (x.f (.pg j9)) else none)))))
  | (.inr (.inr (.inr (.inr (.inr (.inr (.inr (.inr (.inr (.inr (.inr (.inr (.inr (.inl i)))))))))))))) => .inr (10, [.ref (x.f (.tp i)), .int (S.th i).n, .int (S.th i).c, .int (S.th i).z, .int (S.th i).r])
  | (.inr (.inr (.inr (.inr (.inr (.inr (.inr (.inr (.inr (.inr (.inr (.inr (.inr (.inr (.inl i))))))))))))))) => .inl (ar 1, 8, .inr (.inl (S.th i).p))
  | (.inr (.inr (.inr (.inr (.inr (.inr (.inr (.inr (.inr (.inr (.inr (.inr (.inr (.inr (.inr (.inl i)))))))))))))))) => .inr (7, [.ref (x.f (.fa i)), .ref (x.f (.ft i)), .ref (x.f (.fp i)), va_rf ((S.fr i).o.map (fun k9 => x.f (.to k9))), .long (S.fr i).v, .int (S.fr i).w, .int (S.fr i).d])
  | (.inr (.inr (.inr (.inr (.inr (.inr (.inr (.inr (.inr (.inr (.inr (.inr (.inr (.inr (.inr (.inr (.inl i))))))))))))))))) => .inl (ar 1, 2, .inr (.inl (S.fr i).a))
  | (.inr (.inr (.inr (.inr (.inr (.inr (.inr (.inr (.inr (.inr (.inr (.inr (.inr (.inr (.inr (.inr (.inr (.inl i)))))))))))))))))) => .inl (ar 1, 4, .inr (.inl (S.fr i).t))
  | (.inr (.inr (.inr (.inr (.inr (.inr (.inr (.inr (.inr (.inr (.inr (.inr (.inr (.inr (.inr (.inr (.inr (.inr (.inl i))))))))))))))))))) => .inl (ar 1, 8, .inr (.inl (S.fr i).p))
  | (.inr (.inr (.inr (.inr (.inr (.inr (.inr (.inr (.inr (.inr (.inr (.inr (.inr (.inr (.inr (.inr (.inr (.inr (.inr (.inl i)))))))))))))))))))) => .inr (12, [.int (S.to i).c, .int (S.to i).s, .int (S.to i).a, .int (S.to i).t, .ref (x.f (.ro i)), .int (S.to i).n, .int (x.cm i)])
  | (.inr (.inr (.inr (.inr (.inr (.inr (.inr (.inr (.inr (.inr (.inr (.inr (.inr (.inr (.inr (.inr (.inr (.inr (.inr (.inr (.inl i))))))))))))))))))))) => .inr (9, [.ref (x.f (.rl i)), .ref (x.f (.rf i)), .ref (x.f (.rg i)), .ref (x.f (.rd i)), .ref (x.f (.rq i)), .int (S.ro i).n, .int (S.ro i).k])
  | (.inr (.inr (.inr (.inr (.inr (.inr (.inr (.inr (.inr (.inr (.inr (.inr (.inr (.inr (.inr (.inr (.inr (.inr (.inr (.inr (.inr (.inl i)))))))))))))))))))))) => .inl (ar 2, 24, .inl (S.ro i).l)
  | (.inr (.inr (.inr (.inr (.inr (.inr (.inr (.inr (.inr (.inr (.inr (.inr (.inr (.inr (.inr (.inr (.inr (.inr (.inr (.inr (.inr (.inr (.inl i))))))))))))))))))))))) => .inl (ar 0, 24, .inl (S.ro i).f)
  | (.inr (.inr (.inr (.inr (.inr (.inr (.inr (.inr (.inr (.inr (.inr (.inr (.inr (.inr (.inr (.inr (.inr (.inr (.inr (.inr (.inr (.inr (.inr (.inl i)))))))))))))))))))))))) => .inl (ar 0, 24, .inl (S.ro i).g)
  | (.inr (.inr (.inr (.inr (.inr (.inr (.inr (.inr (.inr (.inr (.inr (.inr (.inr (.inr (.inr (.inr (.inr (.inr (.inr (.inr (.inr (.inr (.inr (.inr (.inl i))))))))))))))))))))))))) => .inl (ar 0, 24, .inl (S.ro i).d)
  | (.inr (.inr (.inr (.inr (.inr (.inr (.inr (.inr (.inr (.inr (.inr (.inr (.inr (.inr (.inr (.inr (.inr (.inr (.inr (.inr (.inr (.inr (.inr (.inr (.inr (.inl i)))))))))))))))))))))))))) => .inl (ar 0, 24, .inl (S.ro i).q)
  | (.inr (.inr (.inr (.inr (.inr (.inr (.inr (.inr (.inr (.inr (.inr (.inr (.inr (.inr (.inr (.inr (.inr (.inr (.inr (.inr (.inr (.inr (.inr (.inr (.inr (.inr (.inl i))))))))))))))))))))))))))) => .inr (8, [.ref (x.f (.pv i))])
  | (.inr (.inr (.inr (.inr (.inr (.inr (.inr (.inr (.inr (.inr (.inr (.inr (.inr (.inr (.inr (.inr (.inr (.inr (.inr (.inr (.inr (.inr (.inr (.inr (.inr (.inr (.inr i))))))))))))))))))))))))))) => .inl (ar 1, 512, .inr (.inl (S.pg i)))
def ov (κ : Nat → Nat) (ar : Nat → ClassId) (x : Xo) (S : Ho) (G : gW) : gW := fun a => match x.b a with
  | some t => some (cellH κ ar x S t)
  | none => G a
/-- the addresses and the numbers of methods are in order -/
def OK (x : Xo) (S : Ho) : Prop := (∀ t, vl S t = true → x.b (x.f t) = some t) ∧ (∀ a t, x.b a = some t → x.f t = a) ∧ (∀ j k, S.me j = some k → k < S.nt) ∧ ∀ i k, (S.fr i).o = some k → k < S.nt
section OV
variable {κ : Nat → Nat} {ar : Nat → ClassId} {x x' : Xo} {S S' T : Ho} {G : gW} {t : Tg} {c : va_E}
theorem OK.e (h : OK x S) : ∀ t, vl S t = true → x.b (x.f t) = some t := h.1
theorem OK.v (h : OK x S) : ∀ a t, x.b a = some t → x.f t = a := h.2.1
theorem OK.m (h : OK x S) {j k : Nat} (q : S.me j = some k) : k < S.nt := h.2.2.1 j k q
theorem OK.o (h : OK x S) {i : Fin 12} {k : Nat} (q : (S.fr i).o = some k) : k < S.nt := h.2.2.2 i k q
theorem OK.e_to (h : OK x S) {i : Nat} (q : i < S.nt) : x.b (x.f (.to i)) = some (.to i) := h.1 (.to i) (decide_eq_true q)
theorem OK.e_ro (h : OK x S) {i : Nat} (q : i ≤ S.nt) : x.b (x.f (.ro i)) = some (.ro i) := h.1 (.ro i) (decide_eq_true q)
theorem OK.e_rl (h : OK x S) {i : Nat} (q : i ≤ S.nt) : x.b (x.f (.rl i)) = some (.rl i) := h.1 (.rl i) (decide_eq_true q)
theorem OK.e_rf (h : OK x S) {i : Nat} (q : i ≤ S.nt) : x.b (x.f (.rf i)) = some (.rf i) := h.1 (.rf i) (decide_eq_true q)
theorem OK.e_rg (h : OK x S) {i : Nat} (q : i ≤ S.nt) : x.b (x.f (.rg i)) = some (.rg i) := h.1 (.rg i) (decide_eq_true q)
theorem OK.e_rd (h : OK x S) {i : Nat} (q : i ≤ S.nt) : x.b (x.f (.rd i)) = some (.rd i) := h.1 (.rd i) (decide_eq_true q)
theorem OK.e_rq (h : OK x S) {i : Nat} (q : i ≤ S.nt) : x.b (x.f (.rq i)) = some (.rq i) := h.1 (.rq i) (decide_eq_true q)
theorem OK.e_pg (h : OK x S) {i : Nat} (q : i < S.np) : x.b (x.f (.pg i)) = some (.pg i) := h.1 (.pg i) (decide_eq_true q)
theorem OK.e_pv (h : OK x S) {i : Nat} (q : i < S.np) : x.b (x.f (.pv i)) = some (.pv i) := h.1 (.pv i) (decide_eq_true q)
theorem ov_r (h : x.b (x.f t) = some t) : ov κ ar x S G (x.f t) = some (cellH κ ar x S t) := by
  unfold ov
  rw [h]
theorem ov_w (hv : ∀ a t, x.b a = some t → x.f t = a) (h : x.b (x.f t) = some t) (hb : x'.b = x.b) (hc : c = cellH κ ar x' S' t) (hs : ∀ t', t' ≠ t → cellH κ ar x' S' t' = cellH κ ar x S t') : g_up (ov κ ar x S G) (x.f t) c = ov κ ar x' S' G := by
  funext a
  unfold g_up ov
  rw [hb]
  by_cases q : a = x.f t
  · subst q
    rw [if_pos rfl, h, hc]
  · rw [if_neg q]
    cases hba : x.b a with
    | none => rfl
    | some t' =>
      have h1 := hv a t' hba
      have h2 : t' ≠ t := fun z => q (by rw [← h1, z])
      simp only [hs t' h2]
theorem vl_same (hn : T.nt = S.nt) (hp : T.np = S.np) (t : Tg) : vl T t = vl S t := by
  rcases t with ⟨⟩ | ⟨⟩ | ⟨⟩ | ⟨⟩ | ⟨⟩ | ⟨⟩ | ⟨⟩ | ⟨⟩ | ⟨⟩ | ⟨⟩ | ⟨⟩ | ⟨⟩ | ⟨⟩ | i | i | i | i | i | i | i | i | i | i | i | i | i | i | i <;> simp only [vl, hn, hp]
theorem OK.same (h : OK x S) (hn : T.nt = S.nt) (hp : T.np = S.np) (hm : ∀ j k, T.me j = some k → k < S.nt) (ho : ∀ i k, (T.fr i).o = some k → k < S.nt) : OK x T :=
  ⟨fun t ht => h.e t (by rw [← vl_same hn hp t]; exact ht), h.v, fun j k q => by rw [hn]; exact hm j k q, fun i k q => by rw [hn]; exact ho i k q⟩
/-- a change that leaves methods, frames and pages alone -/
theorem OK.plain (h : OK x S) (hn : T.nt = S.nt) (hp : T.np = S.np) (hm : T.me = S.me) (ho : T.fr = S.fr) : OK x T :=
  h.same hn hp (fun j k q => h.m (by rw [← hm]; exact q)) (fun i k q => h.o (by rw [← ho]; exact q))
theorem OK.frS (h : OK x S) {i : Fin 12} {v : Fr} (hv : ∀ k, v.o = some k → k < S.nt) : OK x (S.frS i v) :=
  h.same rfl rfl h.2.2.1 (fun j k q => by
    by_cases hj : j = i
    · subst hj
      rw [frS_s] at q
      exact hv k q
    · rw [frS_o hj] at q
      exact h.o q)
theorem ov_rfr {i : Fin 12} {v : Fr} (h : x.b (x.f (.fr i)) = some (.fr i)) : ov κ ar x (S.frS i v) G (x.f (.fr i)) = some (.inr (7, [.ref (x.f (.fa i)), .ref (x.f (.ft i)), .ref (x.f (.fp i)), va_rf (v.o.map (fun k9 => x.f (.to k9))), .long v.v, .int v.w, .int v.d])) := by
  refine (ov_r h).trans ?_
  show some (.inr (7, [.ref (x.f (.fa i)), .ref (x.f (.ft i)), .ref (x.f (.fp i)), va_rf (((S.frS i v).fr i).o.map (fun k9 => x.f (.to k9))), .long ((S.frS i v).fr i).v, .int ((S.frS i v).fr i).w, .int ((S.frS i v).fr i).d])) = _
  rw [frS_s]
theorem ov_rfa {i : Fin 12} {v : Fr} (h : x.b (x.f (.fa i)) = some (.fa i)) : ov κ ar x (S.frS i v) G (x.f (.fa i)) = some (.inl (ar 1, 2, .inr (.inl v.a))) := by
  refine (ov_r h).trans ?_
  show some (.inl (ar 1, 2, .inr (.inl ((S.frS i v).fr i).a))) = _
  rw [frS_s]
theorem ov_rft {i : Fin 12} {v : Fr} (h : x.b (x.f (.ft i)) = some (.ft i)) : ov κ ar x (S.frS i v) G (x.f (.ft i)) = some (.inl (ar 1, 4, .inr (.inl v.t))) := by
  refine (ov_r h).trans ?_
  show some (.inl (ar 1, 4, .inr (.inl ((S.frS i v).fr i).t))) = _
  rw [frS_s]
theorem ov_rfp {i : Fin 12} {v : Fr} (h : x.b (x.f (.fp i)) = some (.fp i)) : ov κ ar x (S.frS i v) G (x.f (.fp i)) = some (.inl (ar 1, 8, .inr (.inl v.p))) := by
  refine (ov_r h).trans ?_
  show some (.inl (ar 1, 8, .inr (.inl ((S.frS i v).fr i).p))) = _
  rw [frS_s]
theorem ov_wfr {i : Fin 12} {v v' : Fr} (hv : ∀ a t, x.b a = some t → x.f t = a) (h : x.b (x.f (.fr i)) = some (.fr i)) (hc : c = .inr (7, [.ref (x.f (.fa i)), .ref (x.f (.ft i)), .ref (x.f (.fp i)), va_rf (v'.o.map (fun k9 => x.f (.to k9))), .long v'.v, .int v'.w, .int v'.d])) (h_a : v'.a = v.a) (h_t : v'.t = v.t) (h_p : v'.p = v.p) : g_up (ov κ ar x (S.frS i v) G) (x.f (.fr i)) c = ov κ ar x (S.frS i v') G := by
  refine ov_w hv h rfl ?_ (fun t' q => ?_)
  · rw [hc]
    show _ = (.inr (7, [.ref (x.f (.fa i)), .ref (x.f (.ft i)), .ref (x.f (.fp i)), va_rf (((S.frS i v').fr i).o.map (fun k9 => x.f (.to k9))), .long ((S.frS i v').fr i).v, .int ((S.frS i v').fr i).w, .int ((S.frS i v').fr i).d]) : va_E)
    rw [frS_s]
  rcases t' with ⟨⟩ | ⟨⟩ | ⟨⟩ | ⟨⟩ | ⟨⟩ | ⟨⟩ | ⟨⟩ | ⟨⟩ | ⟨⟩ | ⟨⟩ | ⟨⟩ | ⟨⟩ | ⟨⟩ | j | j | j | j | j | j | j | j | j | j | j | j | j | j | j
  · rfl
  · rfl
  · rfl
  · rfl
  · rfl
  · rfl
  · rfl
  · rfl
  · rfl
  · rfl
  · rfl
  · rfl
  · rfl
  · rfl
  · rfl
  · by_cases hj : j = i
    · subst hj
      exact absurd rfl q
    · have e1 : (S.frS i v').fr j = S.fr j := frS_o hj
      have e2 : (S.frS i v).fr j = S.fr j := frS_o hj
      unfold cellH
      simp only [e1, e2]
  · by_cases hj : j = i
    · subst hj
      show cellH κ ar x (S.frS j v') (.fa j) = cellH κ ar x (S.frS j v) (.fa j)
      have e1 : (S.frS j v').fr j = v' := frS_s
      have e2 : (S.frS j v).fr j = v := frS_s
      unfold cellH
      simp only [Tg.fa, e1, e2, h_a]
    · have e1 : (S.frS i v').fr j = S.fr j := frS_o hj
      have e2 : (S.frS i v).fr j = S.fr j := frS_o hj
      unfold cellH
      simp only [e1, e2]
  · by_cases hj : j = i
    · subst hj
      show cellH κ ar x (S.frS j v') (.ft j) = cellH κ ar x (S.frS j v) (.ft j)
      have e1 : (S.frS j v').fr j = v' := frS_s
      have e2 : (S.frS j v).fr j = v := frS_s
      unfold cellH
      simp only [Tg.ft, e1, e2, h_t]
    · have e1 : (S.frS i v').fr j = S.fr j := frS_o hj
      have e2 : (S.frS i v).fr j = S.fr j := frS_o hj
      unfold cellH
      simp only [e1, e2]
  · by_cases hj : j = i
    · subst hj
      show cellH κ ar x (S.frS j v') (.fp j) = cellH κ ar x (S.frS j v) (.fp j)
      have e1 : (S.frS j v').fr j = v' := frS_s
      have e2 : (S.frS j v).fr j = v := frS_s
      unfold cellH
      simp only [Tg.fp, e1, e2, h_p]
    · have e1 : (S.frS i v').fr j = S.fr j := frS_o hj
      have e2 : (S.frS i v).fr j = S.fr j := frS_o hj
      unfold cellH
      simp only [e1, e2]
  · rfl
  · rfl
  · rfl
  · rfl
  · rfl
  · rfl
  · rfl
  · rfl
  · rfl
theorem ov_wfa {i : Fin 12} {v v' : Fr} (hv : ∀ a t, x.b a = some t → x.f t = a) (h : x.b (x.f (.fa i)) = some (.fa i)) (hc : c = .inl (ar 1, 2, .inr (.inl v'.a))) (h_t : v'.t = v.t) (h_p : v'.p = v.p) (h_o : v'.o = v.o) (h_v : v'.v = v.v) (h_w : v'.w = v.w) (h_d : v'.d = v.d) : g_up (ov κ ar x (S.frS i v) G) (x.f (.fa i)) c = ov κ ar x (S.frS i v') G := by
  refine ov_w hv h rfl ?_ (fun t' q => ?_)
  · rw [hc]
    show _ = (.inl (ar 1, 2, .inr (.inl ((S.frS i v').fr i).a)) : va_E)
    rw [frS_s]
  rcases t' with ⟨⟩ | ⟨⟩ | ⟨⟩ | ⟨⟩ | ⟨⟩ | ⟨⟩ | ⟨⟩ | ⟨⟩ | ⟨⟩ | ⟨⟩ | ⟨⟩ | ⟨⟩ | ⟨⟩ | j | j | j | j | j | j | j | j | j | j | j | j | j | j | j
  · rfl
  · rfl
  · rfl
  · rfl
  · rfl
  · rfl
  · rfl
  · rfl
  · rfl
  · rfl
  · rfl
  · rfl
  · rfl
  · rfl
  · rfl
  · by_cases hj : j = i
    · subst hj
      show cellH κ ar x (S.frS j v') (.fr j) = cellH κ ar x (S.frS j v) (.fr j)
      have e1 : (S.frS j v').fr j = v' := frS_s
      have e2 : (S.frS j v).fr j = v := frS_s
      unfold cellH
      simp only [Tg.fr, e1, e2, h_o, h_v, h_w, h_d]
    · have e1 : (S.frS i v').fr j = S.fr j := frS_o hj
      have e2 : (S.frS i v).fr j = S.fr j := frS_o hj
      unfold cellH
      simp only [e1, e2]
  · by_cases hj : j = i
    · subst hj
      exact absurd rfl q
    · have e1 : (S.frS i v').fr j = S.fr j := frS_o hj
      have e2 : (S.frS i v).fr j = S.fr j := frS_o hj
      unfold cellH
      simp only [e1, e2]
  · by_cases hj : j = i
    · subst hj
      show cellH κ ar x (S.frS j v') (.ft j) = cellH κ ar x (S.frS j v) (.ft j)
      have e1 : (S.frS j v').fr j = v' := frS_s
      have e2 : (S.frS j v).fr j = v := frS_s
      unfold cellH
      simp only [Tg.ft, e1, e2, h_t]
    · have e1 : (S.frS i v').fr j = S.fr j := frS_o hj
      have e2 : (S.frS i v).fr j = S.fr j := frS_o hj
      unfold cellH
      simp only [e1, e2]
  · by_cases hj : j = i
    · subst hj
      show cellH κ ar x (S.frS j v') (.fp j) = cellH κ ar x (S.frS j v) (.fp j)
      have e1 : (S.frS j v').fr j = v' := frS_s
      have e2 : (S.frS j v).fr j = v := frS_s
      unfold cellH
      simp only [Tg.fp, e1, e2, h_p]
    · have e1 : (S.frS i v').fr j = S.fr j := frS_o hj
      have e2 : (S.frS i v).fr j = S.fr j := frS_o hj
      unfold cellH
      simp only [e1, e2]
  · rfl
  · rfl
  · rfl
  · rfl
  · rfl
  · rfl
  · rfl
  · rfl
  · rfl
theorem ov_wft {i : Fin 12} {v v' : Fr} (hv : ∀ a t, x.b a = some t → x.f t = a) (h : x.b (x.f (.ft i)) = some (.ft i)) (hc : c = .inl (ar 1, 4, .inr (.inl v'.t))) (h_a : v'.a = v.a) (h_p : v'.p = v.p) (h_o : v'.o = v.o) (h_v : v'.v = v.v) (h_w : v'.w = v.w) (h_d : v'.d = v.d) : g_up (ov κ ar x (S.frS i v) G) (x.f (.ft i)) c = ov κ ar x (S.frS i v') G := by
  refine ov_w hv h rfl ?_ (fun t' q => ?_)
  · rw [hc]
    show _ = (.inl (ar 1, 4, .inr (.inl ((S.frS i v').fr i).t)) : va_E)
    rw [frS_s]
  rcases t' with ⟨⟩ | ⟨⟩ | ⟨⟩ | ⟨⟩ | ⟨⟩ | ⟨⟩ | ⟨⟩ | ⟨⟩ | ⟨⟩ | ⟨⟩ | ⟨⟩ | ⟨⟩ | ⟨⟩ | j | j | j | j | j | j | j | j | j | j | j | j | j | j | j
  · rfl
  · rfl
  · rfl
  · rfl
  · rfl
  · rfl
  · rfl
  · rfl
  · rfl
  · rfl
  · rfl
  · rfl
  · rfl
  · rfl
  · rfl
  · by_cases hj : j = i
    · subst hj
      show cellH κ ar x (S.frS j v') (.fr j) = cellH κ ar x (S.frS j v) (.fr j)
      have e1 : (S.frS j v').fr j = v' := frS_s
      have e2 : (S.frS j v).fr j = v := frS_s
      unfold cellH
      simp only [Tg.fr, e1, e2, h_o, h_v, h_w, h_d]
    · have e1 : (S.frS i v').fr j = S.fr j := frS_o hj
      have e2 : (S.frS i v).fr j = S.fr j := frS_o hj
      unfold cellH
      simp only [e1, e2]
  · by_cases hj : j = i
    · subst hj
      show cellH κ ar x (S.frS j v') (.fa j) = cellH κ ar x (S.frS j v) (.fa j)
      have e1 : (S.frS j v').fr j = v' := frS_s
      have e2 : (S.frS j v).fr j = v := frS_s
      unfold cellH
      simp only [Tg.fa, e1, e2, h_a]
    · have e1 : (S.frS i v').fr j = S.fr j := frS_o hj
      have e2 : (S.frS i v).fr j = S.fr j := frS_o hj
      unfold cellH
      simp only [e1, e2]
  · by_cases hj : j = i
    · subst hj
      exact absurd rfl q
    · have e1 : (S.frS i v').fr j = S.fr j := frS_o hj
      have e2 : (S.frS i v).fr j = S.fr j := frS_o hj
      unfold cellH
      simp only [e1, e2]
  · by_cases hj : j = i
    · subst hj
      show cellH κ ar x (S.frS j v') (.fp j) = cellH κ ar x (S.frS j v) (.fp j)
      have e1 : (S.frS j v').fr j = v' := frS_s
      have e2 : (S.frS j v).fr j = v := frS_s
      unfold cellH
      simp only [Tg.fp, e1, e2, h_p]
    · have e1 : (S.frS i v').fr j = S.fr j := frS_o hj
      have e2 : (S.frS i v).fr j = S.fr j := frS_o hj
      unfold cellH
      simp only [e1, e2]
  · rfl
  · rfl
  · rfl
  · rfl
  · rfl
  · rfl
  · rfl
  · rfl
  · rfl
theorem ov_wfp {i : Fin 12} {v v' : Fr} (hv : ∀ a t, x.b a = some t → x.f t = a) (h : x.b (x.f (.fp i)) = some (.fp i)) (hc : c = .inl (ar 1, 8, .inr (.inl v'.p))) (h_a : v'.a = v.a) (h_t : v'.t = v.t) (h_o : v'.o = v.o) (h_v : v'.v = v.v) (h_w : v'.w = v.w) (h_d : v'.d = v.d) : g_up (ov κ ar x (S.frS i v) G) (x.f (.fp i)) c = ov κ ar x (S.frS i v') G := by
  refine ov_w hv h rfl ?_ (fun t' q => ?_)
  · rw [hc]
    show _ = (.inl (ar 1, 8, .inr (.inl ((S.frS i v').fr i).p)) : va_E)
    rw [frS_s]
  rcases t' with ⟨⟩ | ⟨⟩ | ⟨⟩ | ⟨⟩ | ⟨⟩ | ⟨⟩ | ⟨⟩ | ⟨⟩ | ⟨⟩ | ⟨⟩ | ⟨⟩ | ⟨⟩ | ⟨⟩ | j | j | j | j | j | j | j | j | j | j | j | j | j | j | j
  · rfl
  · rfl
  · rfl
  · rfl
  · rfl
  · rfl
  · rfl
  · rfl
  · rfl
  · rfl
  · rfl
  · rfl
  · rfl
  · rfl
  · rfl
  · by_cases hj : j = i
    · subst hj
      show cellH κ ar x (S.frS j v') (.fr j) = cellH κ ar x (S.frS j v) (.fr j)
      have e1 : (S.frS j v').fr j = v' := frS_s
      have e2 : (S.frS j v).fr j = v := frS_s
      unfold cellH
      simp only [Tg.fr, e1, e2, h_o, h_v, h_w, h_d]
    · have e1 : (S.frS i v').fr j = S.fr j := frS_o hj
      have e2 : (S.frS i v).fr j = S.fr j := frS_o hj
      unfold cellH
      simp only [e1, e2]
  · by_cases hj : j = i
    · subst hj
      show cellH κ ar x (S.frS j v') (.fa j) = cellH κ ar x (S.frS j v) (.fa j)
      have e1 : (S.frS j v').fr j = v' := frS_s
      have e2 : (S.frS j v).fr j = v := frS_s
      unfold cellH
      simp only [Tg.fa, e1, e2, h_a]
    · have e1 : (S.frS i v').fr j = S.fr j := frS_o hj
      have e2 : (S.frS i v).fr j = S.fr j := frS_o hj
      unfold cellH
      simp only [e1, e2]
  · by_cases hj : j = i
    · subst hj
      show cellH κ ar x (S.frS j v') (.ft j) = cellH κ ar x (S.frS j v) (.ft j)
      have e1 : (S.frS j v').fr j = v' := frS_s
      have e2 : (S.frS j v).fr j = v := frS_s
      unfold cellH
      simp only [Tg.ft, e1, e2, h_t]
    · have e1 : (S.frS i v').fr j = S.fr j := frS_o hj
      have e2 : (S.frS i v).fr j = S.fr j := frS_o hj
      unfold cellH
      simp only [e1, e2]
  · by_cases hj : j = i
    · subst hj
      exact absurd rfl q
    · have e1 : (S.frS i v').fr j = S.fr j := frS_o hj
      have e2 : (S.frS i v).fr j = S.fr j := frS_o hj
      unfold cellH
      simp only [e1, e2]
  · rfl
  · rfl
  · rfl
  · rfl
  · rfl
  · rfl
  · rfl
  · rfl
  · rfl
theorem ov_rth {i : Fin 60} {v : Th} (h : x.b (x.f (.th i)) = some (.th i)) : ov κ ar x (S.thS i v) G (x.f (.th i)) = some (.inr (10, [.ref (x.f (.tp i)), .int v.n, .int v.c, .int v.z, .int v.r])) := by
  refine (ov_r h).trans ?_
  show some (.inr (10, [.ref (x.f (.tp i)), .int ((S.thS i v).th i).n, .int ((S.thS i v).th i).c, .int ((S.thS i v).th i).z, .int ((S.thS i v).th i).r])) = _
  rw [thS_s]
theorem ov_rtp {i : Fin 60} {v : Th} (h : x.b (x.f (.tp i)) = some (.tp i)) : ov κ ar x (S.thS i v) G (x.f (.tp i)) = some (.inl (ar 1, 8, .inr (.inl v.p))) := by
  refine (ov_r h).trans ?_
  show some (.inl (ar 1, 8, .inr (.inl ((S.thS i v).th i).p))) = _
  rw [thS_s]
theorem ov_wth {i : Fin 60} {v v' : Th} (hv : ∀ a t, x.b a = some t → x.f t = a) (h : x.b (x.f (.th i)) = some (.th i)) (hc : c = .inr (10, [.ref (x.f (.tp i)), .int v'.n, .int v'.c, .int v'.z, .int v'.r])) (h_p : v'.p = v.p) : g_up (ov κ ar x (S.thS i v) G) (x.f (.th i)) c = ov κ ar x (S.thS i v') G := by
  refine ov_w hv h rfl ?_ (fun t' q => ?_)
  · rw [hc]
    show _ = (.inr (10, [.ref (x.f (.tp i)), .int ((S.thS i v').th i).n, .int ((S.thS i v').th i).c, .int ((S.thS i v').th i).z, .int ((S.thS i v').th i).r]) : va_E)
    rw [thS_s]
  rcases t' with ⟨⟩ | ⟨⟩ | ⟨⟩ | ⟨⟩ | ⟨⟩ | ⟨⟩ | ⟨⟩ | ⟨⟩ | ⟨⟩ | ⟨⟩ | ⟨⟩ | ⟨⟩ | ⟨⟩ | j | j | j | j | j | j | j | j | j | j | j | j | j | j | j
  · rfl
  · rfl
  · rfl
  · rfl
  · rfl
  · rfl
  · rfl
  · rfl
  · rfl
  · rfl
  · rfl
  · rfl
  · rfl
  · by_cases hj : j = i
    · subst hj
      exact absurd rfl q
    · have e1 : (S.thS i v').th j = S.th j := thS_o hj
      have e2 : (S.thS i v).th j = S.th j := thS_o hj
      unfold cellH
      simp only [e1, e2]
  · by_cases hj : j = i
    · subst hj
      show cellH κ ar x (S.thS j v') (.tp j) = cellH κ ar x (S.thS j v) (.tp j)
      have e1 : (S.thS j v').th j = v' := thS_s
      have e2 : (S.thS j v).th j = v := thS_s
      unfold cellH
      simp only [Tg.tp, e1, e2, h_p]
    · have e1 : (S.thS i v').th j = S.th j := thS_o hj
      have e2 : (S.thS i v).th j = S.th j := thS_o hj
      unfold cellH
      simp only [e1, e2]
  · rfl
  · rfl
  · rfl
  · rfl
  · rfl
  · rfl
  · rfl
  · rfl
  · rfl
  · rfl
  · rfl
  · rfl
  · rfl
theorem ov_wtp {i : Fin 60} {v v' : Th} (hv : ∀ a t, x.b a = some t → x.f t = a) (h : x.b (x.f (.tp i)) = some (.tp i)) (hc : c = .inl (ar 1, 8, .inr (.inl v'.p))) (h_n : v'.n = v.n) (h_c : v'.c = v.c) (h_z : v'.z = v.z) (h_r : v'.r = v.r) : g_up (ov κ ar x (S.thS i v) G) (x.f (.tp i)) c = ov κ ar x (S.thS i v') G := by
  refine ov_w hv h rfl ?_ (fun t' q => ?_)
  · rw [hc]
    show _ = (.inl (ar 1, 8, .inr (.inl ((S.thS i v').th i).p)) : va_E)
    rw [thS_s]
  rcases t' with ⟨⟩ | ⟨⟩ | ⟨⟩ | ⟨⟩ | ⟨⟩ | ⟨⟩ | ⟨⟩ | ⟨⟩ | ⟨⟩ | ⟨⟩ | ⟨⟩ | ⟨⟩ | ⟨⟩ | j | j | j | j | j | j | j | j | j | j | j | j | j | j | j
  · rfl
  · rfl
  · rfl
  · rfl
  · rfl
  · rfl
  · rfl
  · rfl
  · rfl
  · rfl
  · rfl
  · rfl
  · rfl
  · by_cases hj : j = i
    · subst hj
      show cellH κ ar x (S.thS j v') (.th j) = cellH κ ar x (S.thS j v) (.th j)
      have e1 : (S.thS j v').th j = v' := thS_s
      have e2 : (S.thS j v).th j = v := thS_s
      unfold cellH
      simp only [Tg.th, e1, e2, h_n, h_c, h_z, h_r]
    · have e1 : (S.thS i v').th j = S.th j := thS_o hj
      have e2 : (S.thS i v).th j = S.th j := thS_o hj
      unfold cellH
      simp only [e1, e2]
  · by_cases hj : j = i
    · subst hj
      exact absurd rfl q
    · have e1 : (S.thS i v').th j = S.th j := thS_o hj
      have e2 : (S.thS i v).th j = S.th j := thS_o hj
      unfold cellH
      simp only [e1, e2]
  · rfl
  · rfl
  · rfl
  · rfl
  · rfl
  · rfl
  · rfl
  · rfl
  · rfl
  · rfl
  · rfl
  · rfl
  · rfl
theorem ov_rto {i : Nat} {v : To} (h : x.b (x.f (.to i)) = some (.to i)) : ov κ ar x (S.toS i v) G (x.f (.to i)) = some (.inr (12, [.int v.c, .int v.s, .int v.a, .int v.t, .ref (x.f (.ro i)), .int v.n, .int (x.cm i)])) := by
  refine (ov_r h).trans ?_
  show some (.inr (12, [.int ((S.toS i v).to i).c, .int ((S.toS i v).to i).s, .int ((S.toS i v).to i).a, .int ((S.toS i v).to i).t, .ref (x.f (.ro i)), .int ((S.toS i v).to i).n, .int (x.cm i)])) = _
  rw [toS_s]
theorem ov_wto {i : Nat} {v v' : To} (hv : ∀ a t, x.b a = some t → x.f t = a) (h : x.b (x.f (.to i)) = some (.to i)) (hc : c = .inr (12, [.int v'.c, .int v'.s, .int v'.a, .int v'.t, .ref (x.f (.ro i)), .int v'.n, .int (x.cm i)])) : g_up (ov κ ar x (S.toS i v) G) (x.f (.to i)) c = ov κ ar x (S.toS i v') G := by
  refine ov_w hv h rfl ?_ (fun t' q => ?_)
  · rw [hc]
    show _ = (.inr (12, [.int ((S.toS i v').to i).c, .int ((S.toS i v').to i).s, .int ((S.toS i v').to i).a, .int ((S.toS i v').to i).t, .ref (x.f (.ro i)), .int ((S.toS i v').to i).n, .int (x.cm i)]) : va_E)
    rw [toS_s]
  rcases t' with ⟨⟩ | ⟨⟩ | ⟨⟩ | ⟨⟩ | ⟨⟩ | ⟨⟩ | ⟨⟩ | ⟨⟩ | ⟨⟩ | ⟨⟩ | ⟨⟩ | ⟨⟩ | ⟨⟩ | j | j | j | j | j | j | j | j | j | j | j | j | j | j | j
  · rfl
  · rfl
  · rfl
  · rfl
  · rfl
  · rfl
  · rfl
  · rfl
  · rfl
  · rfl
  · rfl
  · rfl
  · rfl
  · rfl
  · rfl
  · rfl
  · rfl
  · rfl
  · rfl
  · by_cases hj : j = i
    · subst hj
      exact absurd rfl q
    · have e1 : (S.toS i v').to j = S.to j := toS_o hj
      have e2 : (S.toS i v).to j = S.to j := toS_o hj
      unfold cellH
      simp only [e1, e2]
  · rfl
  · rfl
  · rfl
  · rfl
  · rfl
  · rfl
  · rfl
  · rfl
theorem ov_rro {i : Nat} {v : Ro} (h : x.b (x.f (.ro i)) = some (.ro i)) : ov κ ar x (S.roS i v) G (x.f (.ro i)) = some (.inr (9, [.ref (x.f (.rl i)), .ref (x.f (.rf i)), .ref (x.f (.rg i)), .ref (x.f (.rd i)), .ref (x.f (.rq i)), .int v.n, .int v.k])) := by
  refine (ov_r h).trans ?_
  show some (.inr (9, [.ref (x.f (.rl i)), .ref (x.f (.rf i)), .ref (x.f (.rg i)), .ref (x.f (.rd i)), .ref (x.f (.rq i)), .int ((S.roS i v).ro i).n, .int ((S.roS i v).ro i).k])) = _
  rw [roS_s]
theorem ov_rrl {i : Nat} {v : Ro} (h : x.b (x.f (.rl i)) = some (.rl i)) : ov κ ar x (S.roS i v) G (x.f (.rl i)) = some (.inl (ar 2, 24, .inl v.l)) := by
  refine (ov_r h).trans ?_
  show some (.inl (ar 2, 24, .inl ((S.roS i v).ro i).l)) = _
  rw [roS_s]
theorem ov_rrf {i : Nat} {v : Ro} (h : x.b (x.f (.rf i)) = some (.rf i)) : ov κ ar x (S.roS i v) G (x.f (.rf i)) = some (.inl (ar 0, 24, .inl v.f)) := by
  refine (ov_r h).trans ?_
  show some (.inl (ar 0, 24, .inl ((S.roS i v).ro i).f)) = _
  rw [roS_s]
theorem ov_rrg {i : Nat} {v : Ro} (h : x.b (x.f (.rg i)) = some (.rg i)) : ov κ ar x (S.roS i v) G (x.f (.rg i)) = some (.inl (ar 0, 24, .inl v.g)) := by
  refine (ov_r h).trans ?_
  show some (.inl (ar 0, 24, .inl ((S.roS i v).ro i).g)) = _
  rw [roS_s]
theorem ov_rrd {i : Nat} {v : Ro} (h : x.b (x.f (.rd i)) = some (.rd i)) : ov κ ar x (S.roS i v) G (x.f (.rd i)) = some (.inl (ar 0, 24, .inl v.d)) := by
  refine (ov_r h).trans ?_
  show some (.inl (ar 0, 24, .inl ((S.roS i v).ro i).d)) = _
  rw [roS_s]
theorem ov_rrq {i : Nat} {v : Ro} (h : x.b (x.f (.rq i)) = some (.rq i)) : ov κ ar x (S.roS i v) G (x.f (.rq i)) = some (.inl (ar 0, 24, .inl v.q)) := by
  refine (ov_r h).trans ?_
  show some (.inl (ar 0, 24, .inl ((S.roS i v).ro i).q)) = _
  rw [roS_s]
theorem ov_wro {i : Nat} {v v' : Ro} (hv : ∀ a t, x.b a = some t → x.f t = a) (h : x.b (x.f (.ro i)) = some (.ro i)) (hc : c = .inr (9, [.ref (x.f (.rl i)), .ref (x.f (.rf i)), .ref (x.f (.rg i)), .ref (x.f (.rd i)), .ref (x.f (.rq i)), .int v'.n, .int v'.k])) (h_l : v'.l = v.l) (h_f : v'.f = v.f) (h_g : v'.g = v.g) (h_d : v'.d = v.d) (h_q : v'.q = v.q) : g_up (ov κ ar x (S.roS i v) G) (x.f (.ro i)) c = ov κ ar x (S.roS i v') G := by
  refine ov_w hv h rfl ?_ (fun t' q => ?_)
  · rw [hc]
    show _ = (.inr (9, [.ref (x.f (.rl i)), .ref (x.f (.rf i)), .ref (x.f (.rg i)), .ref (x.f (.rd i)), .ref (x.f (.rq i)), .int ((S.roS i v').ro i).n, .int ((S.roS i v').ro i).k]) : va_E)
    rw [roS_s]
  rcases t' with ⟨⟩ | ⟨⟩ | ⟨⟩ | ⟨⟩ | ⟨⟩ | ⟨⟩ | ⟨⟩ | ⟨⟩ | ⟨⟩ | ⟨⟩ | ⟨⟩ | ⟨⟩ | ⟨⟩ | j | j | j | j | j | j | j | j | j | j | j | j | j | j | j
  · rfl
  · rfl
  · rfl
  · rfl
  · rfl
  · rfl
  · rfl
  · rfl
  · rfl
  · rfl
  · rfl
  · rfl
  · rfl
  · rfl
  · rfl
  · rfl
  · rfl
  · rfl
  · rfl
  · rfl
  · by_cases hj : j = i
    · subst hj
      exact absurd rfl q
    · have e1 : (S.roS i v').ro j = S.ro j := roS_o hj
      have e2 : (S.roS i v).ro j = S.ro j := roS_o hj
      unfold cellH
      simp only [e1, e2]
  · by_cases hj : j = i
    · subst hj
      show cellH κ ar x (S.roS j v') (.rl j) = cellH κ ar x (S.roS j v) (.rl j)
      have e1 : (S.roS j v').ro j = v' := roS_s
      have e2 : (S.roS j v).ro j = v := roS_s
      unfold cellH
      simp only [Tg.rl, e1, e2, h_l]
    · have e1 : (S.roS i v').ro j = S.ro j := roS_o hj
      have e2 : (S.roS i v).ro j = S.ro j := roS_o hj
      unfold cellH
      simp only [e1, e2]
  · by_cases hj : j = i
    · subst hj
      show cellH κ ar x (S.roS j v') (.rf j) = cellH κ ar x (S.roS j v) (.rf j)
      have e1 : (S.roS j v').ro j = v' := roS_s
      have e2 : (S.roS j v).ro j = v := roS_s
      unfold cellH
      simp only [Tg.rf, e1, e2, h_f]
    · have e1 : (S.roS i v').ro j = S.ro j := roS_o hj
      have e2 : (S.roS i v).ro j = S.ro j := roS_o hj
      unfold cellH
      simp only [e1, e2]
  · by_cases hj : j = i
    · subst hj
      show cellH κ ar x (S.roS j v') (.rg j) = cellH κ ar x (S.roS j v) (.rg j)
      have e1 : (S.roS j v').ro j = v' := roS_s
      have e2 : (S.roS j v).ro j = v := roS_s
      unfold cellH
      simp only [Tg.rg, e1, e2, h_g]
    · have e1 : (S.roS i v').ro j = S.ro j := roS_o hj
      have e2 : (S.roS i v).ro j = S.ro j := roS_o hj
      unfold cellH
      simp only [e1, e2]
  · by_cases hj : j = i
    · subst hj
      show cellH κ ar x (S.roS j v') (.rd j) = cellH κ ar x (S.roS j v) (.rd j)
      have e1 : (S.roS j v').ro j = v' := roS_s
      have e2 : (S.roS j v).ro j = v := roS_s
      unfold cellH
      simp only [Tg.rd, e1, e2, h_d]
    · have e1 : (S.roS i v').ro j = S.ro j := roS_o hj
      have e2 : (S.roS i v).ro j = S.ro j := roS_o hj
      unfold cellH
      simp only [e1, e2]
  · by_cases hj : j = i
    · subst hj
      show cellH κ ar x (S.roS j v') (.rq j) = cellH κ ar x (S.roS j v) (.rq j)
      have e1 : (S.roS j v').ro j = v' := roS_s
      have e2 : (S.roS j v).ro j = v := roS_s
      unfold cellH
      simp only [Tg.rq, e1, e2, h_q]
    · have e1 : (S.roS i v').ro j = S.ro j := roS_o hj
      have e2 : (S.roS i v).ro j = S.ro j := roS_o hj
      unfold cellH
      simp only [e1, e2]
  · rfl
  · rfl
theorem ov_wrl {i : Nat} {v v' : Ro} (hv : ∀ a t, x.b a = some t → x.f t = a) (h : x.b (x.f (.rl i)) = some (.rl i)) (hc : c = .inl (ar 2, 24, .inl v'.l)) (h_f : v'.f = v.f) (h_g : v'.g = v.g) (h_d : v'.d = v.d) (h_q : v'.q = v.q) (h_n : v'.n = v.n) (h_k : v'.k = v.k) : g_up (ov κ ar x (S.roS i v) G) (x.f (.rl i)) c = ov κ ar x (S.roS i v') G := by
  refine ov_w hv h rfl ?_ (fun t' q => ?_)
  · rw [hc]
    show _ = (.inl (ar 2, 24, .inl ((S.roS i v').ro i).l) : va_E)
    rw [roS_s]
  rcases t' with ⟨⟩ | ⟨⟩ | ⟨⟩ | ⟨⟩ | ⟨⟩ | ⟨⟩ | ⟨⟩ | ⟨⟩ | ⟨⟩ | ⟨⟩ | ⟨⟩ | ⟨⟩ | ⟨⟩ | j | j | j | j | j | j | j | j | j | j | j | j | j | j | j
  · rfl
  · rfl
  · rfl
  · rfl
  · rfl
  · rfl
  · rfl
  · rfl
  · rfl
  · rfl
  · rfl
  · rfl
  · rfl
  · rfl
  · rfl
  · rfl
  · rfl
  · rfl
  · rfl
  · rfl
  · by_cases hj : j = i
    · subst hj
      show cellH κ ar x (S.roS j v') (.ro j) = cellH κ ar x (S.roS j v) (.ro j)
      have e1 : (S.roS j v').ro j = v' := roS_s
      have e2 : (S.roS j v).ro j = v := roS_s
      unfold cellH
      simp only [Tg.ro, e1, e2, h_n, h_k]
    · have e1 : (S.roS i v').ro j = S.ro j := roS_o hj
      have e2 : (S.roS i v).ro j = S.ro j := roS_o hj
      unfold cellH
      simp only [e1, e2]
  · by_cases hj : j = i
    · subst hj
      exact absurd rfl q
    · have e1 : (S.roS i v').ro j = S.ro j := roS_o hj
      have e2 : (S.roS i v).ro j = S.ro j := roS_o hj
      unfold cellH
      simp only [e1, e2]
  · by_cases hj : j = i
    · subst hj
      show cellH κ ar x (S.roS j v') (.rf j) = cellH κ ar x (S.roS j v) (.rf j)
      have e1 : (S.roS j v').ro j = v' := roS_s
      have e2 : (S.roS j v).ro j = v := roS_s
      unfold cellH
      simp only [Tg.rf, e1, e2, h_f]
    · have e1 : (S.roS i v').ro j = S.ro j := roS_o hj
      have e2 : (S.roS i v).ro j = S.ro j := roS_o hj
      unfold cellH
      simp only [e1, e2]
  · by_cases hj : j = i
    · subst hj
      show cellH κ ar x (S.roS j v') (.rg j) = cellH κ ar x (S.roS j v) (.rg j)
      have e1 : (S.roS j v').ro j = v' := roS_s
      have e2 : (S.roS j v).ro j = v := roS_s
      unfold cellH
      simp only [Tg.rg, e1, e2, h_g]
    · have e1 : (S.roS i v').ro j = S.ro j := roS_o hj
      have e2 : (S.roS i v).ro j = S.ro j := roS_o hj
      unfold cellH
      simp only [e1, e2]
  · by_cases hj : j = i
    · subst hj
      show cellH κ ar x (S.roS j v') (.rd j) = cellH κ ar x (S.roS j v) (.rd j)
      have e1 : (S.roS j v').ro j = v' := roS_s
      have e2 : (S.roS j v).ro j = v := roS_s
      unfold cellH
      simp only [Tg.rd, e1, e2, h_d]
    · have e1 : (S.roS i v').ro j = S.ro j := roS_o hj
      have e2 : (S.roS i v).ro j = S.ro j := roS_o hj
      unfold cellH
      simp only [e1, e2]
  · by_cases hj : j = i
    · subst hj
      show cellH κ ar x (S.roS j v') (.rq j) = cellH κ ar x (S.roS j v) (.rq j)
      have e1 : (S.roS j v').ro j = v' := roS_s
      have e2 : (S.roS j v).ro j = v := roS_s
      unfold cellH
      simp only [Tg.rq, e1, e2, h_q]
    · have e1 : (S.roS i v').ro j = S.ro j := roS_o hj
      have e2 : (S.roS i v).ro j = S.ro j := roS_o hj
      unfold cellH
      simp only [e1, e2]
  · rfl
  · rfl
theorem ov_wrf {i : Nat} {v v' : Ro} (hv : ∀ a t, x.b a = some t → x.f t = a) (h : x.b (x.f (.rf i)) = some (.rf i)) (hc : c = .inl (ar 0, 24, .inl v'.f)) (h_l : v'.l = v.l) (h_g : v'.g = v.g) (h_d : v'.d = v.d) (h_q : v'.q = v.q) (h_n : v'.n = v.n) (h_k : v'.k = v.k) : g_up (ov κ ar x (S.roS i v) G) (x.f (.rf i)) c = ov κ ar x (S.roS i v') G := by
  refine ov_w hv h rfl ?_ (fun t' q => ?_)
  · rw [hc]
    show _ = (.inl (ar 0, 24, .inl ((S.roS i v').ro i).f) : va_E)
    rw [roS_s]
  rcases t' with ⟨⟩ | ⟨⟩ | ⟨⟩ | ⟨⟩ | ⟨⟩ | ⟨⟩ | ⟨⟩ | ⟨⟩ | ⟨⟩ | ⟨⟩ | ⟨⟩ | ⟨⟩ | ⟨⟩ | j | j | j | j | j | j | j | j | j | j | j | j | j | j | j
  · rfl
  · rfl
  · rfl
  · rfl
  · rfl
  · rfl
  · rfl
  · rfl
  · rfl
  · rfl
  · rfl
  · rfl
  · rfl
  · rfl
  · rfl
  · rfl
  · rfl
  · rfl
  · rfl
  · rfl
  · by_cases hj : j = i
    · subst hj
      show cellH κ ar x (S.roS j v') (.ro j) = cellH κ ar x (S.roS j v) (.ro j)
      have e1 : (S.roS j v').ro j = v' := roS_s
      have e2 : (S.roS j v).ro j = v := roS_s
      unfold cellH
      simp only [Tg.ro, e1, e2, h_n, h_k]
    · have e1 : (S.roS i v').ro j = S.ro j := roS_o hj
      have e2 : (S.roS i v).ro j = S.ro j := roS_o hj
      unfold cellH
      simp only [e1, e2]
  · by_cases hj : j = i
    · subst hj
      show cellH κ ar x (S.roS j v') (.rl j) = cellH κ ar x (S.roS j v) (.rl j)
      have e1 : (S.roS j v').ro j = v' := roS_s
      have e2 : (S.roS j v).ro j = v := roS_s
      unfold cellH
      simp only [Tg.rl, e1, e2, h_l]
    · have e1 : (S.roS i v').ro j = S.ro j := roS_o hj
      have e2 : (S.roS i v).ro j = S.ro j := roS_o hj
      unfold cellH
      simp only [e1, e2]
  · by_cases hj : j = i
    · subst hj
      exact absurd rfl q
    · have e1 : (S.roS i v').ro j = S.ro j := roS_o hj
      have e2 : (S.roS i v).ro j = S.ro j := roS_o hj
      unfold cellH
      simp only [e1, e2]
  · by_cases hj : j = i
    · subst hj
      show cellH κ ar x (S.roS j v') (.rg j) = cellH κ ar x (S.roS j v) (.rg j)
      have e1 : (S.roS j v').ro j = v' := roS_s
      have e2 : (S.roS j v).ro j = v := roS_s
      unfold cellH
      simp only [Tg.rg, e1, e2, h_g]
    · have e1 : (S.roS i v').ro j = S.ro j := roS_o hj
      have e2 : (S.roS i v).ro j = S.ro j := roS_o hj
      unfold cellH
      simp only [e1, e2]
  · by_cases hj : j = i
    · subst hj
      show cellH κ ar x (S.roS j v') (.rd j) = cellH κ ar x (S.roS j v) (.rd j)
      have e1 : (S.roS j v').ro j = v' := roS_s
      have e2 : (S.roS j v).ro j = v := roS_s
      unfold cellH
      simp only [Tg.rd, e1, e2, h_d]
    · have e1 : (S.roS i v').ro j = S.ro j := roS_o hj
      have e2 : (S.roS i v).ro j = S.ro j := roS_o hj
      unfold cellH
      simp only [e1, e2]
  · by_cases hj : j = i
    · subst hj
      show cellH κ ar x (S.roS j v') (.rq j) = cellH κ ar x (S.roS j v) (.rq j)
      have e1 : (S.roS j v').ro j = v' := roS_s
      have e2 : (S.roS j v).ro j = v := roS_s
      unfold cellH
      simp only [Tg.rq, e1, e2, h_q]
    · have e1 : (S.roS i v').ro j = S.ro j := roS_o hj
      have e2 : (S.roS i v).ro j = S.ro j := roS_o hj
      unfold cellH
      simp only [e1, e2]
  · rfl
  · rfl
theorem ov_wrg {i : Nat} {v v' : Ro} (hv : ∀ a t, x.b a = some t → x.f t = a) (h : x.b (x.f (.rg i)) = some (.rg i)) (hc : c = .inl (ar 0, 24, .inl v'.g)) (h_l : v'.l = v.l) (h_f : v'.f = v.f) (h_d : v'.d = v.d) (h_q : v'.q = v.q) (h_n : v'.n = v.n) (h_k : v'.k = v.k) : g_up (ov κ ar x (S.roS i v) G) (x.f (.rg i)) c = ov κ ar x (S.roS i v') G := by
  refine ov_w hv h rfl ?_ (fun t' q => ?_)
  · rw [hc]
    show _ = (.inl (ar 0, 24, .inl ((S.roS i v').ro i).g) : va_E)
    rw [roS_s]
  rcases t' with ⟨⟩ | ⟨⟩ | ⟨⟩ | ⟨⟩ | ⟨⟩ | ⟨⟩ | ⟨⟩ | ⟨⟩ | ⟨⟩ | ⟨⟩ | ⟨⟩ | ⟨⟩ | ⟨⟩ | j | j | j | j | j | j | j | j | j | j | j | j | j | j | j
  · rfl
  · rfl
  · rfl
  · rfl
  · rfl
  · rfl
  · rfl
  · rfl
  · rfl
  · rfl
  · rfl
  · rfl
  · rfl
  · rfl
  · rfl
  · rfl
  · rfl
  · rfl
  · rfl
  · rfl
  · by_cases hj : j = i
    · subst hj
      show cellH κ ar x (S.roS j v') (.ro j) = cellH κ ar x (S.roS j v) (.ro j)
      have e1 : (S.roS j v').ro j = v' := roS_s
      have e2 : (S.roS j v).ro j = v := roS_s
      unfold cellH
      simp only [Tg.ro, e1, e2, h_n, h_k]
    · have e1 : (S.roS i v').ro j = S.ro j := roS_o hj
      have e2 : (S.roS i v).ro j = S.ro j := roS_o hj
      unfold cellH
      simp only [e1, e2]
  · by_cases hj : j = i
    · subst hj
      show cellH κ ar x (S.roS j v') (.rl j) = cellH κ ar x (S.roS j v) (.rl j)
      have e1 : (S.roS j v').ro j = v' := roS_s
      have e2 : (S.roS j v).ro j = v := roS_s
      unfold cellH
      simp only [Tg.rl, e1, e2, h_l]
    · have e1 : (S.roS i v').ro j = S.ro j := roS_o hj
      have e2 : (S.roS i v).ro j = S.ro j := roS_o hj
      unfold cellH
      simp only [e1, e2]
  · by_cases hj : j = i
    · subst hj
      show cellH κ ar x (S.roS j v') (.rf j) = cellH κ ar x (S.roS j v) (.rf j)
      have e1 : (S.roS j v').ro j = v' := roS_s
      have e2 : (S.roS j v).ro j = v := roS_s
      unfold cellH
      simp only [Tg.rf, e1, e2, h_f]
    · have e1 : (S.roS i v').ro j = S.ro j := roS_o hj
      have e2 : (S.roS i v).ro j = S.ro j := roS_o hj
      unfold cellH
      simp only [e1, e2]
  · by_cases hj : j = i
    · subst hj
      exact absurd rfl q
    · have e1 : (S.roS i v').ro j = S.ro j := roS_o hj
      have e2 : (S.roS i v).ro j = S.ro j := roS_o hj
      unfold cellH
      simp only [e1, e2]
  · by_cases hj : j = i
    · subst hj
      show cellH κ ar x (S.roS j v') (.rd j) = cellH κ ar x (S.roS j v) (.rd j)
      have e1 : (S.roS j v').ro j = v' := roS_s
      have e2 : (S.roS j v).ro j = v := roS_s
      unfold cellH
      simp only [Tg.rd, e1, e2, h_d]
    · have e1 : (S.roS i v').ro j = S.ro j := roS_o hj
      have e2 : (S.roS i v).ro j = S.ro j := roS_o hj
      unfold cellH
      simp only [e1, e2]
  · by_cases hj : j = i
    · subst hj
      show cellH κ ar x (S.roS j v') (.rq j) = cellH κ ar x (S.roS j v) (.rq j)
      have e1 : (S.roS j v').ro j = v' := roS_s
      have e2 : (S.roS j v).ro j = v := roS_s
      unfold cellH
      simp only [Tg.rq, e1, e2, h_q]
    · have e1 : (S.roS i v').ro j = S.ro j := roS_o hj
      have e2 : (S.roS i v).ro j = S.ro j := roS_o hj
      unfold cellH
      simp only [e1, e2]
  · rfl
  · rfl
theorem ov_wrd {i : Nat} {v v' : Ro} (hv : ∀ a t, x.b a = some t → x.f t = a) (h : x.b (x.f (.rd i)) = some (.rd i)) (hc : c = .inl (ar 0, 24, .inl v'.d)) (h_l : v'.l = v.l) (h_f : v'.f = v.f) (h_g : v'.g = v.g) (h_q : v'.q = v.q) (h_n : v'.n = v.n) (h_k : v'.k = v.k) : g_up (ov κ ar x (S.roS i v) G) (x.f (.rd i)) c = ov κ ar x (S.roS i v') G := by
  refine ov_w hv h rfl ?_ (fun t' q => ?_)
  · rw [hc]
    show _ = (.inl (ar 0, 24, .inl ((S.roS i v').ro i).d) : va_E)
    rw [roS_s]
  rcases t' with ⟨⟩ | ⟨⟩ | ⟨⟩ | ⟨⟩ | ⟨⟩ | ⟨⟩ | ⟨⟩ | ⟨⟩ | ⟨⟩ | ⟨⟩ | ⟨⟩ | ⟨⟩ | ⟨⟩ | j | j | j | j | j | j | j | j | j | j | j | j | j | j | j
  · rfl
  · rfl
  · rfl
  · rfl
  · rfl
  · rfl
  · rfl
  · rfl
  · rfl
  · rfl
  · rfl
  · rfl
  · rfl
  · rfl
  · rfl
  · rfl
  · rfl
  · rfl
  · rfl
  · rfl
  · by_cases hj : j = i
    · subst hj
      show cellH κ ar x (S.roS j v') (.ro j) = cellH κ ar x (S.roS j v) (.ro j)
      have e1 : (S.roS j v').ro j = v' := roS_s
      have e2 : (S.roS j v).ro j = v := roS_s
      unfold cellH
      simp only [Tg.ro, e1, e2, h_n, h_k]
    · have e1 : (S.roS i v').ro j = S.ro j := roS_o hj
      have e2 : (S.roS i v).ro j = S.ro j := roS_o hj
      unfold cellH
      simp only [e1, e2]
  · by_cases hj : j = i
    · subst hj
      show cellH κ ar x (S.roS j v') (.rl j) = cellH κ ar x (S.roS j v) (.rl j)
      have e1 : (S.roS j v').ro j = v' := roS_s
      have e2 : (S.roS j v).ro j = v := roS_s
      unfold cellH
      simp only [Tg.rl, e1, e2, h_l]
    · have e1 : (S.roS i v').ro j = S.ro j := roS_o hj
      have e2 : (S.roS i v).ro j = S.ro j := roS_o hj
      unfold cellH
      simp only [e1, e2]
  · by_cases hj : j = i
    · subst hj
      show cellH κ ar x (S.roS j v') (.rf j) = cellH κ ar x (S.roS j v) (.rf j)
      have e1 : (S.roS j v').ro j = v' := roS_s
      have e2 : (S.roS j v).ro j = v := roS_s
      unfold cellH
      simp only [Tg.rf, e1, e2, h_f]
    · have e1 : (S.roS i v').ro j = S.ro j := roS_o hj
      have e2 : (S.roS i v).ro j = S.ro j := roS_o hj
      unfold cellH
      simp only [e1, e2]
  · by_cases hj : j = i
    · subst hj
      show cellH κ ar x (S.roS j v') (.rg j) = cellH κ ar x (S.roS j v) (.rg j)
      have e1 : (S.roS j v').ro j = v' := roS_s
      have e2 : (S.roS j v).ro j = v := roS_s
      unfold cellH
      simp only [Tg.rg, e1, e2, h_g]
    · have e1 : (S.roS i v').ro j = S.ro j := roS_o hj
      have e2 : (S.roS i v).ro j = S.ro j := roS_o hj
      unfold cellH
      simp only [e1, e2]
  · by_cases hj : j = i
    · subst hj
      exact absurd rfl q
    · have e1 : (S.roS i v').ro j = S.ro j := roS_o hj
      have e2 : (S.roS i v).ro j = S.ro j := roS_o hj
      unfold cellH
      simp only [e1, e2]
  · by_cases hj : j = i
    · subst hj
      show cellH κ ar x (S.roS j v') (.rq j) = cellH κ ar x (S.roS j v) (.rq j)
      have e1 : (S.roS j v').ro j = v' := roS_s
      have e2 : (S.roS j v).ro j = v := roS_s
      unfold cellH
      simp only [Tg.rq, e1, e2, h_q]
    · have e1 : (S.roS i v').ro j = S.ro j := roS_o hj
      have e2 : (S.roS i v).ro j = S.ro j := roS_o hj
      unfold cellH
      simp only [e1, e2]
  · rfl
  · rfl
theorem ov_wrq {i : Nat} {v v' : Ro} (hv : ∀ a t, x.b a = some t → x.f t = a) (h : x.b (x.f (.rq i)) = some (.rq i)) (hc : c = .inl (ar 0, 24, .inl v'.q)) (h_l : v'.l = v.l) (h_f : v'.f = v.f) (h_g : v'.g = v.g) (h_d : v'.d = v.d) (h_n : v'.n = v.n) (h_k : v'.k = v.k) : g_up (ov κ ar x (S.roS i v) G) (x.f (.rq i)) c = ov κ ar x (S.roS i v') G := by
  refine ov_w hv h rfl ?_ (fun t' q => ?_)
  · rw [hc]
    show _ = (.inl (ar 0, 24, .inl ((S.roS i v').ro i).q) : va_E)
    rw [roS_s]
  rcases t' with ⟨⟩ | ⟨⟩ | ⟨⟩ | ⟨⟩ | ⟨⟩ | ⟨⟩ | ⟨⟩ | ⟨⟩ | ⟨⟩ | ⟨⟩ | ⟨⟩ | ⟨⟩ | ⟨⟩ | j | j | j | j | j | j | j | j | j | j | j | j | j | j | j
  · rfl
  · rfl
  · rfl
  · rfl
  · rfl
  · rfl
  · rfl
  · rfl
  · rfl
  · rfl
  · rfl
  · rfl
  · rfl
  · rfl
  · rfl
  · rfl
  · rfl
  · rfl
  · rfl
  · rfl
  · by_cases hj : j = i
    · subst hj
      show cellH κ ar x (S.roS j v') (.ro j) = cellH κ ar x (S.roS j v) (.ro j)
      have e1 : (S.roS j v').ro j = v' := roS_s
      have e2 : (S.roS j v).ro j = v := roS_s
      unfold cellH
      simp only [Tg.ro, e1, e2, h_n, h_k]
    · have e1 : (S.roS i v').ro j = S.ro j := roS_o hj
      have e2 : (S.roS i v).ro j = S.ro j := roS_o hj
      unfold cellH
      simp only [e1, e2]
  · by_cases hj : j = i
    · subst hj
      show cellH κ ar x (S.roS j v') (.rl j) = cellH κ ar x (S.roS j v) (.rl j)
      have e1 : (S.roS j v').ro j = v' := roS_s
      have e2 : (S.roS j v).ro j = v := roS_s
      unfold cellH
      simp only [Tg.rl, e1, e2, h_l]
    · have e1 : (S.roS i v').ro j = S.ro j := roS_o hj
      have e2 : (S.roS i v).ro j = S.ro j := roS_o hj
      unfold cellH
      simp only [e1, e2]
  · by_cases hj : j = i
    · subst hj
      show cellH κ ar x (S.roS j v') (.rf j) = cellH κ ar x (S.roS j v) (.rf j)
      have e1 : (S.roS j v').ro j = v' := roS_s
      have e2 : (S.roS j v).ro j = v := roS_s
      unfold cellH
      simp only [Tg.rf, e1, e2, h_f]
    · have e1 : (S.roS i v').ro j = S.ro j := roS_o hj
      have e2 : (S.roS i v).ro j = S.ro j := roS_o hj
      unfold cellH
      simp only [e1, e2]
  · by_cases hj : j = i
    · subst hj
      show cellH κ ar x (S.roS j v') (.rg j) = cellH κ ar x (S.roS j v) (.rg j)
      have e1 : (S.roS j v').ro j = v' := roS_s
      have e2 : (S.roS j v).ro j = v := roS_s
      unfold cellH
      simp only [Tg.rg, e1, e2, h_g]
    · have e1 : (S.roS i v').ro j = S.ro j := roS_o hj
      have e2 : (S.roS i v).ro j = S.ro j := roS_o hj
      unfold cellH
      simp only [e1, e2]
  · by_cases hj : j = i
    · subst hj
      show cellH κ ar x (S.roS j v') (.rd j) = cellH κ ar x (S.roS j v) (.rd j)
      have e1 : (S.roS j v').ro j = v' := roS_s
      have e2 : (S.roS j v).ro j = v := roS_s
      unfold cellH
      simp only [Tg.rd, e1, e2, h_d]
    · have e1 : (S.roS i v').ro j = S.ro j := roS_o hj
      have e2 : (S.roS i v).ro j = S.ro j := roS_o hj
      unfold cellH
      simp only [e1, e2]
  · by_cases hj : j = i
    · subst hj
      exact absurd rfl q
    · have e1 : (S.roS i v').ro j = S.ro j := roS_o hj
      have e2 : (S.roS i v).ro j = S.ro j := roS_o hj
      unfold cellH
      simp only [e1, e2]
  · rfl
  · rfl
theorem ov_who (hv : ∀ a t, x.b a = some t → x.f t = a) (h : x.b (x.f .ho) = some .ho) (hc : c = .inr (14, [.ref (x.f .cl), .ref (x.f .me), .ref (x.f (.ro T.nt)), .int x.ht, .ref (x.f .gl), .ref (x.f .ts), .ref (x.f .fs), .int T.fn, .int T.st, .int T.rs, .long T.an, .int T.sp, .ref (x.f .wr)])) (h_ab : T.ab = S.ab) (h_fc : T.fc = S.fc) (h_cn : T.cn = S.cn) (h_me : T.me = S.me) (h_nt : T.nt = S.nt) (h_to : T.to = S.to) (h_ro : T.ro = S.ro) (h_gl : T.gl = S.gl) (h_al : T.al = S.al) (h_re : T.re = S.re) (h_th : T.th = S.th) (h_tc : T.tc = S.tc) (h_rc : T.rc = S.rc) (h_mk : T.mk = S.mk) (h_fr : T.fr = S.fr) (h_np : T.np = S.np) (h_pg : T.pg = S.pg) (h_wc : T.wc = S.wc) (h_ws : T.ws = S.ws) (h_wp : T.wp = S.wp) : g_up (ov κ ar x S G) (x.f .ho) c = ov κ ar x T G := by
  refine ov_w hv h rfl hc (fun t' q => ?_)
  rcases t' with ⟨⟩ | ⟨⟩ | ⟨⟩ | ⟨⟩ | ⟨⟩ | ⟨⟩ | ⟨⟩ | ⟨⟩ | ⟨⟩ | ⟨⟩ | ⟨⟩ | ⟨⟩ | ⟨⟩ | j | j | j | j | j | j | j | j | j | j | j | j | j | j | j
  · exact absurd rfl q
  · simp only [cellH, h_cn]
  · simp only [cellH, h_ab]
  · simp only [cellH, h_fc]
  · simp only [cellH, h_me]
  · simp only [cellH, h_gl]
  · simp only [cellH, h_tc, h_rc, h_mk]
  · simp only [cellH, h_al]
  · simp only [cellH, h_re]
  · rfl
  · simp only [cellH, h_wc, h_ws, h_wp]
  · simp only [cellH, h_np]
  · simp only [cellH, h_np]
  · simp only [cellH, h_th]
  · simp only [cellH, h_th]
  · simp only [cellH, h_fr]
  · simp only [cellH, h_fr]
  · simp only [cellH, h_fr]
  · simp only [cellH, h_fr]
  · simp only [cellH, h_to]
  · simp only [cellH, h_ro]
  · simp only [cellH, h_ro]
  · simp only [cellH, h_ro]
  · simp only [cellH, h_ro]
  · simp only [cellH, h_ro]
  · simp only [cellH, h_ro]
  · rfl
  · simp only [cellH, h_pg]
theorem ov_wcl (hv : ∀ a t, x.b a = some t → x.f t = a) (h : x.b (x.f .cl) = some .cl) (hc : c = .inr (6, [.ref (x.f .ab), .ref (x.f .fc), .int T.cn])) (h_ab : T.ab = S.ab) (h_fc : T.fc = S.fc) (h_me : T.me = S.me) (h_nt : T.nt = S.nt) (h_to : T.to = S.to) (h_ro : T.ro = S.ro) (h_gl : T.gl = S.gl) (h_al : T.al = S.al) (h_re : T.re = S.re) (h_th : T.th = S.th) (h_tc : T.tc = S.tc) (h_rc : T.rc = S.rc) (h_mk : T.mk = S.mk) (h_fr : T.fr = S.fr) (h_fn : T.fn = S.fn) (h_st : T.st = S.st) (h_rs : T.rs = S.rs) (h_an : T.an = S.an) (h_sp : T.sp = S.sp) (h_np : T.np = S.np) (h_pg : T.pg = S.pg) (h_wc : T.wc = S.wc) (h_ws : T.ws = S.ws) (h_wp : T.wp = S.wp) : g_up (ov κ ar x S G) (x.f .cl) c = ov κ ar x T G := by
  refine ov_w hv h rfl hc (fun t' q => ?_)
  rcases t' with ⟨⟩ | ⟨⟩ | ⟨⟩ | ⟨⟩ | ⟨⟩ | ⟨⟩ | ⟨⟩ | ⟨⟩ | ⟨⟩ | ⟨⟩ | ⟨⟩ | ⟨⟩ | ⟨⟩ | j | j | j | j | j | j | j | j | j | j | j | j | j | j | j
  · simp only [cellH, h_nt, h_fn, h_st, h_rs, h_an, h_sp]
  · exact absurd rfl q
  · simp only [cellH, h_ab]
  · simp only [cellH, h_fc]
  · simp only [cellH, h_me]
  · simp only [cellH, h_gl]
  · simp only [cellH, h_tc, h_rc, h_mk]
  · simp only [cellH, h_al]
  · simp only [cellH, h_re]
  · rfl
  · simp only [cellH, h_wc, h_ws, h_wp]
  · simp only [cellH, h_np]
  · simp only [cellH, h_np]
  · simp only [cellH, h_th]
  · simp only [cellH, h_th]
  · simp only [cellH, h_fr]
  · simp only [cellH, h_fr]
  · simp only [cellH, h_fr]
  · simp only [cellH, h_fr]
  · simp only [cellH, h_to]
  · simp only [cellH, h_ro]
  · simp only [cellH, h_ro]
  · simp only [cellH, h_ro]
  · simp only [cellH, h_ro]
  · simp only [cellH, h_ro]
  · simp only [cellH, h_ro]
  · rfl
  · simp only [cellH, h_pg]
theorem ov_wab (hv : ∀ a t, x.b a = some t → x.f t = a) (h : x.b (x.f .ab) = some .ab) (hc : c = .inl (ar 0, 12, .inl T.ab)) (h_fc : T.fc = S.fc) (h_cn : T.cn = S.cn) (h_me : T.me = S.me) (h_nt : T.nt = S.nt) (h_to : T.to = S.to) (h_ro : T.ro = S.ro) (h_gl : T.gl = S.gl) (h_al : T.al = S.al) (h_re : T.re = S.re) (h_th : T.th = S.th) (h_tc : T.tc = S.tc) (h_rc : T.rc = S.rc) (h_mk : T.mk = S.mk) (h_fr : T.fr = S.fr) (h_fn : T.fn = S.fn) (h_st : T.st = S.st) (h_rs : T.rs = S.rs) (h_an : T.an = S.an) (h_sp : T.sp = S.sp) (h_np : T.np = S.np) (h_pg : T.pg = S.pg) (h_wc : T.wc = S.wc) (h_ws : T.ws = S.ws) (h_wp : T.wp = S.wp) : g_up (ov κ ar x S G) (x.f .ab) c = ov κ ar x T G := by
  refine ov_w hv h rfl hc (fun t' q => ?_)
  rcases t' with ⟨⟩ | ⟨⟩ | ⟨⟩ | ⟨⟩ | ⟨⟩ | ⟨⟩ | ⟨⟩ | ⟨⟩ | ⟨⟩ | ⟨⟩ | ⟨⟩ | ⟨⟩ | ⟨⟩ | j | j | j | j | j | j | j | j | j | j | j | j | j | j | j
  · simp only [cellH, h_nt, h_fn, h_st, h_rs, h_an, h_sp]
  · simp only [cellH, h_cn]
  · exact absurd rfl q
  · simp only [cellH, h_fc]
  · simp only [cellH, h_me]
  · simp only [cellH, h_gl]
  · simp only [cellH, h_tc, h_rc, h_mk]
  · simp only [cellH, h_al]
  · simp only [cellH, h_re]
  · rfl
  · simp only [cellH, h_wc, h_ws, h_wp]
  · simp only [cellH, h_np]
  · simp only [cellH, h_np]
  · simp only [cellH, h_th]
  · simp only [cellH, h_th]
  · simp only [cellH, h_fr]
  · simp only [cellH, h_fr]
  · simp only [cellH, h_fr]
  · simp only [cellH, h_fr]
  · simp only [cellH, h_to]
  · simp only [cellH, h_ro]
  · simp only [cellH, h_ro]
  · simp only [cellH, h_ro]
  · simp only [cellH, h_ro]
  · simp only [cellH, h_ro]
  · simp only [cellH, h_ro]
  · rfl
  · simp only [cellH, h_pg]
theorem ov_wfc (hv : ∀ a t, x.b a = some t → x.f t = a) (h : x.b (x.f .fc) = some .fc) (hc : c = .inl (ar 0, 12, .inl T.fc)) (h_ab : T.ab = S.ab) (h_cn : T.cn = S.cn) (h_me : T.me = S.me) (h_nt : T.nt = S.nt) (h_to : T.to = S.to) (h_ro : T.ro = S.ro) (h_gl : T.gl = S.gl) (h_al : T.al = S.al) (h_re : T.re = S.re) (h_th : T.th = S.th) (h_tc : T.tc = S.tc) (h_rc : T.rc = S.rc) (h_mk : T.mk = S.mk) (h_fr : T.fr = S.fr) (h_fn : T.fn = S.fn) (h_st : T.st = S.st) (h_rs : T.rs = S.rs) (h_an : T.an = S.an) (h_sp : T.sp = S.sp) (h_np : T.np = S.np) (h_pg : T.pg = S.pg) (h_wc : T.wc = S.wc) (h_ws : T.ws = S.ws) (h_wp : T.wp = S.wp) : g_up (ov κ ar x S G) (x.f .fc) c = ov κ ar x T G := by
  refine ov_w hv h rfl hc (fun t' q => ?_)
  rcases t' with ⟨⟩ | ⟨⟩ | ⟨⟩ | ⟨⟩ | ⟨⟩ | ⟨⟩ | ⟨⟩ | ⟨⟩ | ⟨⟩ | ⟨⟩ | ⟨⟩ | ⟨⟩ | ⟨⟩ | j | j | j | j | j | j | j | j | j | j | j | j | j | j | j
  · simp only [cellH, h_nt, h_fn, h_st, h_rs, h_an, h_sp]
  · simp only [cellH, h_cn]
  · simp only [cellH, h_ab]
  · exact absurd rfl q
  · simp only [cellH, h_me]
  · simp only [cellH, h_gl]
  · simp only [cellH, h_tc, h_rc, h_mk]
  · simp only [cellH, h_al]
  · simp only [cellH, h_re]
  · rfl
  · simp only [cellH, h_wc, h_ws, h_wp]
  · simp only [cellH, h_np]
  · simp only [cellH, h_np]
  · simp only [cellH, h_th]
  · simp only [cellH, h_th]
  · simp only [cellH, h_fr]
  · simp only [cellH, h_fr]
  · simp only [cellH, h_fr]
  · simp only [cellH, h_fr]
  · simp only [cellH, h_to]
  · simp only [cellH, h_ro]
  · simp only [cellH, h_ro]
  · simp only [cellH, h_ro]
  · simp only [cellH, h_ro]
  · simp only [cellH, h_ro]
  · simp only [cellH, h_ro]
  · rfl
  · simp only [cellH, h_pg]
theorem ov_wme (hv : ∀ a t, x.b a = some t → x.f t = a) (h : x.b (x.f .me) = some .me) (hc : c = .inl (ar 7, 192, .inr (.inr (.inr (.inr (fun j9 => (T.me j9).map (fun k9 => x.f (.to k9)))))))) (h_ab : T.ab = S.ab) (h_fc : T.fc = S.fc) (h_cn : T.cn = S.cn) (h_nt : T.nt = S.nt) (h_to : T.to = S.to) (h_ro : T.ro = S.ro) (h_gl : T.gl = S.gl) (h_al : T.al = S.al) (h_re : T.re = S.re) (h_th : T.th = S.th) (h_tc : T.tc = S.tc) (h_rc : T.rc = S.rc) (h_mk : T.mk = S.mk) (h_fr : T.fr = S.fr) (h_fn : T.fn = S.fn) (h_st : T.st = S.st) (h_rs : T.rs = S.rs) (h_an : T.an = S.an) (h_sp : T.sp = S.sp) (h_np : T.np = S.np) (h_pg : T.pg = S.pg) (h_wc : T.wc = S.wc) (h_ws : T.ws = S.ws) (h_wp : T.wp = S.wp) : g_up (ov κ ar x S G) (x.f .me) c = ov κ ar x T G := by
  refine ov_w hv h rfl hc (fun t' q => ?_)
  rcases t' with ⟨⟩ | ⟨⟩ | ⟨⟩ | ⟨⟩ | ⟨⟩ | ⟨⟩ | ⟨⟩ | ⟨⟩ | ⟨⟩ | ⟨⟩ | ⟨⟩ | ⟨⟩ | ⟨⟩ | j | j | j | j | j | j | j | j | j | j | j | j | j | j | j
  · simp only [cellH, h_nt, h_fn, h_st, h_rs, h_an, h_sp]
  · simp only [cellH, h_cn]
  · simp only [cellH, h_ab]
  · simp only [cellH, h_fc]
  · exact absurd rfl q
  · simp only [cellH, h_gl]
  · simp only [cellH, h_tc, h_rc, h_mk]
  · simp only [cellH, h_al]
  · simp only [cellH, h_re]
  · rfl
  · simp only [cellH, h_wc, h_ws, h_wp]
  · simp only [cellH, h_np]
  · simp only [cellH, h_np]
  · simp only [cellH, h_th]
  · simp only [cellH, h_th]
  · simp only [cellH, h_fr]
  · simp only [cellH, h_fr]
  · simp only [cellH, h_fr]
  · simp only [cellH, h_fr]
  · simp only [cellH, h_to]
  · simp only [cellH, h_ro]
  · simp only [cellH, h_ro]
  · simp only [cellH, h_ro]
  · simp only [cellH, h_ro]
  · simp only [cellH, h_ro]
  · simp only [cellH, h_ro]
  · rfl
  · simp only [cellH, h_pg]
theorem ov_wgl (hv : ∀ a t, x.b a = some t → x.f t = a) (h : x.b (x.f .gl) = some .gl) (hc : c = .inl (ar 1, 8, .inr (.inl T.gl))) (h_ab : T.ab = S.ab) (h_fc : T.fc = S.fc) (h_cn : T.cn = S.cn) (h_me : T.me = S.me) (h_nt : T.nt = S.nt) (h_to : T.to = S.to) (h_ro : T.ro = S.ro) (h_al : T.al = S.al) (h_re : T.re = S.re) (h_th : T.th = S.th) (h_tc : T.tc = S.tc) (h_rc : T.rc = S.rc) (h_mk : T.mk = S.mk) (h_fr : T.fr = S.fr) (h_fn : T.fn = S.fn) (h_st : T.st = S.st) (h_rs : T.rs = S.rs) (h_an : T.an = S.an) (h_sp : T.sp = S.sp) (h_np : T.np = S.np) (h_pg : T.pg = S.pg) (h_wc : T.wc = S.wc) (h_ws : T.ws = S.ws) (h_wp : T.wp = S.wp) : g_up (ov κ ar x S G) (x.f .gl) c = ov κ ar x T G := by
  refine ov_w hv h rfl hc (fun t' q => ?_)
  rcases t' with ⟨⟩ | ⟨⟩ | ⟨⟩ | ⟨⟩ | ⟨⟩ | ⟨⟩ | ⟨⟩ | ⟨⟩ | ⟨⟩ | ⟨⟩ | ⟨⟩ | ⟨⟩ | ⟨⟩ | j | j | j | j | j | j | j | j | j | j | j | j | j | j | j
  · simp only [cellH, h_nt, h_fn, h_st, h_rs, h_an, h_sp]
  · simp only [cellH, h_cn]
  · simp only [cellH, h_ab]
  · simp only [cellH, h_fc]
  · simp only [cellH, h_me]
  · exact absurd rfl q
  · simp only [cellH, h_tc, h_rc, h_mk]
  · simp only [cellH, h_al]
  · simp only [cellH, h_re]
  · rfl
  · simp only [cellH, h_wc, h_ws, h_wp]
  · simp only [cellH, h_np]
  · simp only [cellH, h_np]
  · simp only [cellH, h_th]
  · simp only [cellH, h_th]
  · simp only [cellH, h_fr]
  · simp only [cellH, h_fr]
  · simp only [cellH, h_fr]
  · simp only [cellH, h_fr]
  · simp only [cellH, h_to]
  · simp only [cellH, h_ro]
  · simp only [cellH, h_ro]
  · simp only [cellH, h_ro]
  · simp only [cellH, h_ro]
  · simp only [cellH, h_ro]
  · simp only [cellH, h_ro]
  · rfl
  · simp only [cellH, h_pg]
theorem ov_wts (hv : ∀ a t, x.b a = some t → x.f t = a) (h : x.b (x.f .ts) = some .ts) (hc : c = .inr (11, [.ref (x.f .al), .ref (x.f .re), .int T.tc, .int T.rc, .int T.mk])) (h_ab : T.ab = S.ab) (h_fc : T.fc = S.fc) (h_cn : T.cn = S.cn) (h_me : T.me = S.me) (h_nt : T.nt = S.nt) (h_to : T.to = S.to) (h_ro : T.ro = S.ro) (h_gl : T.gl = S.gl) (h_al : T.al = S.al) (h_re : T.re = S.re) (h_th : T.th = S.th) (h_fr : T.fr = S.fr) (h_fn : T.fn = S.fn) (h_st : T.st = S.st) (h_rs : T.rs = S.rs) (h_an : T.an = S.an) (h_sp : T.sp = S.sp) (h_np : T.np = S.np) (h_pg : T.pg = S.pg) (h_wc : T.wc = S.wc) (h_ws : T.ws = S.ws) (h_wp : T.wp = S.wp) : g_up (ov κ ar x S G) (x.f .ts) c = ov κ ar x T G := by
  refine ov_w hv h rfl hc (fun t' q => ?_)
  rcases t' with ⟨⟩ | ⟨⟩ | ⟨⟩ | ⟨⟩ | ⟨⟩ | ⟨⟩ | ⟨⟩ | ⟨⟩ | ⟨⟩ | ⟨⟩ | ⟨⟩ | ⟨⟩ | ⟨⟩ | j | j | j | j | j | j | j | j | j | j | j | j | j | j | j
  · simp only [cellH, h_nt, h_fn, h_st, h_rs, h_an, h_sp]
  · simp only [cellH, h_cn]
  · simp only [cellH, h_ab]
  · simp only [cellH, h_fc]
  · simp only [cellH, h_me]
  · simp only [cellH, h_gl]
  · exact absurd rfl q
  · simp only [cellH, h_al]
  · simp only [cellH, h_re]
  · rfl
  · simp only [cellH, h_wc, h_ws, h_wp]
  · simp only [cellH, h_np]
  · simp only [cellH, h_np]
  · simp only [cellH, h_th]
  · simp only [cellH, h_th]
  · simp only [cellH, h_fr]
  · simp only [cellH, h_fr]
  · simp only [cellH, h_fr]
  · simp only [cellH, h_fr]
  · simp only [cellH, h_to]
  · simp only [cellH, h_ro]
  · simp only [cellH, h_ro]
  · simp only [cellH, h_ro]
  · simp only [cellH, h_ro]
  · simp only [cellH, h_ro]
  · simp only [cellH, h_ro]
  · rfl
  · simp only [cellH, h_pg]
theorem ov_wal (hv : ∀ a t, x.b a = some t → x.f t = a) (h : x.b (x.f .al) = some .al) (hc : c = .inl (ar 6, 60, .inr (.inr (.inr (.inr (fun j9 => (T.al j9).map (fun k9 => x.f (.th k9)))))))) (h_ab : T.ab = S.ab) (h_fc : T.fc = S.fc) (h_cn : T.cn = S.cn) (h_me : T.me = S.me) (h_nt : T.nt = S.nt) (h_to : T.to = S.to) (h_ro : T.ro = S.ro) (h_gl : T.gl = S.gl) (h_re : T.re = S.re) (h_th : T.th = S.th) (h_tc : T.tc = S.tc) (h_rc : T.rc = S.rc) (h_mk : T.mk = S.mk) (h_fr : T.fr = S.fr) (h_fn : T.fn = S.fn) (h_st : T.st = S.st) (h_rs : T.rs = S.rs) (h_an : T.an = S.an) (h_sp : T.sp = S.sp) (h_np : T.np = S.np) (h_pg : T.pg = S.pg) (h_wc : T.wc = S.wc) (h_ws : T.ws = S.ws) (h_wp : T.wp = S.wp) : g_up (ov κ ar x S G) (x.f .al) c = ov κ ar x T G := by
  refine ov_w hv h rfl hc (fun t' q => ?_)
  rcases t' with ⟨⟩ | ⟨⟩ | ⟨⟩ | ⟨⟩ | ⟨⟩ | ⟨⟩ | ⟨⟩ | ⟨⟩ | ⟨⟩ | ⟨⟩ | ⟨⟩ | ⟨⟩ | ⟨⟩ | j | j | j | j | j | j | j | j | j | j | j | j | j | j | j
  · simp only [cellH, h_nt, h_fn, h_st, h_rs, h_an, h_sp]
  · simp only [cellH, h_cn]
  · simp only [cellH, h_ab]
  · simp only [cellH, h_fc]
  · simp only [cellH, h_me]
  · simp only [cellH, h_gl]
  · simp only [cellH, h_tc, h_rc, h_mk]
  · exact absurd rfl q
  · simp only [cellH, h_re]
  · rfl
  · simp only [cellH, h_wc, h_ws, h_wp]
  · simp only [cellH, h_np]
  · simp only [cellH, h_np]
  · simp only [cellH, h_th]
  · simp only [cellH, h_th]
  · simp only [cellH, h_fr]
  · simp only [cellH, h_fr]
  · simp only [cellH, h_fr]
  · simp only [cellH, h_fr]
  · simp only [cellH, h_to]
  · simp only [cellH, h_ro]
  · simp only [cellH, h_ro]
  · simp only [cellH, h_ro]
  · simp only [cellH, h_ro]
  · simp only [cellH, h_ro]
  · simp only [cellH, h_ro]
  · rfl
  · simp only [cellH, h_pg]
theorem ov_wre (hv : ∀ a t, x.b a = some t → x.f t = a) (h : x.b (x.f .re) = some .re) (hc : c = .inl (ar 6, 60, .inr (.inr (.inr (.inr (fun j9 => (T.re j9).map (fun k9 => x.f (.th k9)))))))) (h_ab : T.ab = S.ab) (h_fc : T.fc = S.fc) (h_cn : T.cn = S.cn) (h_me : T.me = S.me) (h_nt : T.nt = S.nt) (h_to : T.to = S.to) (h_ro : T.ro = S.ro) (h_gl : T.gl = S.gl) (h_al : T.al = S.al) (h_th : T.th = S.th) (h_tc : T.tc = S.tc) (h_rc : T.rc = S.rc) (h_mk : T.mk = S.mk) (h_fr : T.fr = S.fr) (h_fn : T.fn = S.fn) (h_st : T.st = S.st) (h_rs : T.rs = S.rs) (h_an : T.an = S.an) (h_sp : T.sp = S.sp) (h_np : T.np = S.np) (h_pg : T.pg = S.pg) (h_wc : T.wc = S.wc) (h_ws : T.ws = S.ws) (h_wp : T.wp = S.wp) : g_up (ov κ ar x S G) (x.f .re) c = ov κ ar x T G := by
  refine ov_w hv h rfl hc (fun t' q => ?_)
  rcases t' with ⟨⟩ | ⟨⟩ | ⟨⟩ | ⟨⟩ | ⟨⟩ | ⟨⟩ | ⟨⟩ | ⟨⟩ | ⟨⟩ | ⟨⟩ | ⟨⟩ | ⟨⟩ | ⟨⟩ | j | j | j | j | j | j | j | j | j | j | j | j | j | j | j
  · simp only [cellH, h_nt, h_fn, h_st, h_rs, h_an, h_sp]
  · simp only [cellH, h_cn]
  · simp only [cellH, h_ab]
  · simp only [cellH, h_fc]
  · simp only [cellH, h_me]
  · simp only [cellH, h_gl]
  · simp only [cellH, h_tc, h_rc, h_mk]
  · simp only [cellH, h_al]
  · exact absurd rfl q
  · rfl
  · simp only [cellH, h_wc, h_ws, h_wp]
  · simp only [cellH, h_np]
  · simp only [cellH, h_np]
  · simp only [cellH, h_th]
  · simp only [cellH, h_th]
  · simp only [cellH, h_fr]
  · simp only [cellH, h_fr]
  · simp only [cellH, h_fr]
  · simp only [cellH, h_fr]
  · simp only [cellH, h_to]
  · simp only [cellH, h_ro]
  · simp only [cellH, h_ro]
  · simp only [cellH, h_ro]
  · simp only [cellH, h_ro]
  · simp only [cellH, h_ro]
  · simp only [cellH, h_ro]
  · rfl
  · simp only [cellH, h_pg]
theorem ov_wwr (hv : ∀ a t, x.b a = some t → x.f t = a) (h : x.b (x.f .wr) = some .wr) (hc : c = .inr (13, [.ref (x.f .pl), .int T.wc, .long T.ws, .long T.wp])) (h_ab : T.ab = S.ab) (h_fc : T.fc = S.fc) (h_cn : T.cn = S.cn) (h_me : T.me = S.me) (h_nt : T.nt = S.nt) (h_to : T.to = S.to) (h_ro : T.ro = S.ro) (h_gl : T.gl = S.gl) (h_al : T.al = S.al) (h_re : T.re = S.re) (h_th : T.th = S.th) (h_tc : T.tc = S.tc) (h_rc : T.rc = S.rc) (h_mk : T.mk = S.mk) (h_fr : T.fr = S.fr) (h_fn : T.fn = S.fn) (h_st : T.st = S.st) (h_rs : T.rs = S.rs) (h_an : T.an = S.an) (h_sp : T.sp = S.sp) (h_np : T.np = S.np) (h_pg : T.pg = S.pg) : g_up (ov κ ar x S G) (x.f .wr) c = ov κ ar x T G := by
  refine ov_w hv h rfl hc (fun t' q => ?_)
  rcases t' with ⟨⟩ | ⟨⟩ | ⟨⟩ | ⟨⟩ | ⟨⟩ | ⟨⟩ | ⟨⟩ | ⟨⟩ | ⟨⟩ | ⟨⟩ | ⟨⟩ | ⟨⟩ | ⟨⟩ | j | j | j | j | j | j | j | j | j | j | j | j | j | j | j
  · simp only [cellH, h_nt, h_fn, h_st, h_rs, h_an, h_sp]
  · simp only [cellH, h_cn]
  · simp only [cellH, h_ab]
  · simp only [cellH, h_fc]
  · simp only [cellH, h_me]
  · simp only [cellH, h_gl]
  · simp only [cellH, h_tc, h_rc, h_mk]
  · simp only [cellH, h_al]
  · simp only [cellH, h_re]
  · rfl
  · exact absurd rfl q
  · simp only [cellH, h_np]
  · simp only [cellH, h_np]
  · simp only [cellH, h_th]
  · simp only [cellH, h_th]
  · simp only [cellH, h_fr]
  · simp only [cellH, h_fr]
  · simp only [cellH, h_fr]
  · simp only [cellH, h_fr]
  · simp only [cellH, h_to]
  · simp only [cellH, h_ro]
  · simp only [cellH, h_ro]
  · simp only [cellH, h_ro]
  · simp only [cellH, h_ro]
  · simp only [cellH, h_ro]
  · simp only [cellH, h_ro]
  · rfl
  · simp only [cellH, h_pg]
end OV
/-- how the functions of a state are put together -/
def oc {α β : Type} (e : Option α) (a : β) (f : α → β) : β := match e with
  | none => a
  | some k => f k
theorem oc_n {α β : Type} {e : Option α} {a : β} {f : α → β} (h : e = none) : oc e a f = a := by rw [h]; rfl
theorem oc_s {α β : Type} {e : Option α} {a : β} {f : α → β} {k : α} (h : e = some k) : oc e a f = f k := by rw [h]; rfl
/-- how a method that may throw ends: with an answer, or thrown, and the state then -/
abbrev Rs (α : Type) : Type := (α × Ho) ⊕ (String × Ho)
def rc {α β : Type} (e : Rs α) (f : α → Ho → β) (g : String → Ho → β) : β := match e with
  | .inl q => f q.1 q.2
  | .inr q => g q.1 q.2
theorem rc_v {α β : Type} {e : Rs α} {f : α → Ho → β} {g : String → Ho → β} {r : α} {S : Ho} (h : e = .inl (r, S)) : rc e f g = f r S := by rw [h]; rfl
theorem rc_x {α β : Type} {e : Rs α} {f : α → Ho → β} {g : String → Ho → β} {E : String} {S : Ho} (h : e = .inr (E, S)) : rc e f g = g E S := by rw [h]; rfl
def pc {α β : Type} (e : α × Ho) (f : α → Ho → β) : β := f e.1 e.2
theorem pc_e {α β : Type} {e : α × Ho} {f : α → Ho → β} {r : α} {S : Ho} (h : e = (r, S)) : pc e f = f r S := by rw [h]; rfl
def vc {α β : Type} (e : α) (f : α → β) : β := f e
theorem vc_e {α β : Type} {e : α} {f : α → β} {S : α} (h : e = S) : vc e f = f S := by rw [h]; rfl
/-- how often a counting loop may go round -/
theorem FU_x : ∃ n : Nat, n = 2147483648 := ⟨_, rfl⟩
noncomputable def FU : Nat := Classical.choose FU_x
theorem FU_e : FU = 2147483648 := Classical.choose_spec FU_x
