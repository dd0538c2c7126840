section HMST
abbrev Mt : Type := (Int → Int) × Int × (Int → Int) × (Int → Int) × (Int → Int) × (Int → Int) × (Int → Int) × Int × (Int → Int) × (Int → Int) × (Int → Int) × (Int → Int) × (Int → Int) × (Int → Int) × Int × Int × (Int → Int) × (Int → Int) × Int × Int × Int × Int × (Int → Int) × (Int → Int) × (Int → Int) × (Int → Int) × (Int → Int) × Int × Int × Int × Value × (Int → Int) × Int × (Int → Int)
abbrev Mt.h (C : Mt) : Int → Int := C.1
abbrev Mt.n (C : Mt) : Int := C.2.1
abbrev Mt.kd (C : Mt) : Int → Int := C.2.2.1
abbrev Mt.fg (C : Mt) : Int → Int := C.2.2.2.1
abbrev Mt.ag (C : Mt) : Int → Int := C.2.2.2.2.1
abbrev Mt.po (C : Mt) : Int → Int := C.2.2.2.2.2.1
abbrev Mt.wy (C : Mt) : Int → Int := C.2.2.2.2.2.2.1
abbrev Mt.dy (C : Mt) : Int := C.2.2.2.2.2.2.2.1
abbrev Mt.hw (C : Mt) : Int → Int := C.2.2.2.2.2.2.2.2.1
abbrev Mt.kk (C : Mt) : Int → Int := C.2.2.2.2.2.2.2.2.2.1
abbrev Mt.kf (C : Mt) : Int → Int := C.2.2.2.2.2.2.2.2.2.2.1
abbrev Mt.rs (C : Mt) : Int → Int := C.2.2.2.2.2.2.2.2.2.2.2.1
abbrev Mt.rm (C : Mt) : Int → Int := C.2.2.2.2.2.2.2.2.2.2.2.2.1
abbrev Mt.rw (C : Mt) : Int → Int := C.2.2.2.2.2.2.2.2.2.2.2.2.2.1
abbrev Mt.th (C : Mt) : Int := C.2.2.2.2.2.2.2.2.2.2.2.2.2.2.1
abbrev Mt.aw (C : Mt) : Int := C.2.2.2.2.2.2.2.2.2.2.2.2.2.2.2.1
abbrev Mt.gr (C : Mt) : Int → Int := C.2.2.2.2.2.2.2.2.2.2.2.2.2.2.2.2.1
abbrev Mt.wa (C : Mt) : Int → Int := C.2.2.2.2.2.2.2.2.2.2.2.2.2.2.2.2.2.1
abbrev Mt.re (C : Mt) : Int := C.2.2.2.2.2.2.2.2.2.2.2.2.2.2.2.2.2.2.1
abbrev Mt.pl (C : Mt) : Int := C.2.2.2.2.2.2.2.2.2.2.2.2.2.2.2.2.2.2.2.1
abbrev Mt.ib (C : Mt) : Int := C.2.2.2.2.2.2.2.2.2.2.2.2.2.2.2.2.2.2.2.2.1
abbrev Mt.sn (C : Mt) : Int := C.2.2.2.2.2.2.2.2.2.2.2.2.2.2.2.2.2.2.2.2.2.1
abbrev Mt.pi (C : Mt) : Int → Int := C.2.2.2.2.2.2.2.2.2.2.2.2.2.2.2.2.2.2.2.2.2.2.1
abbrev Mt.lo (C : Mt) : Int → Int := C.2.2.2.2.2.2.2.2.2.2.2.2.2.2.2.2.2.2.2.2.2.2.2.1
abbrev Mt.to (C : Mt) : Int → Int := C.2.2.2.2.2.2.2.2.2.2.2.2.2.2.2.2.2.2.2.2.2.2.2.2.1
abbrev Mt.ke (C : Mt) : Int → Int := C.2.2.2.2.2.2.2.2.2.2.2.2.2.2.2.2.2.2.2.2.2.2.2.2.2.1
abbrev Mt.im (C : Mt) : Int → Int := C.2.2.2.2.2.2.2.2.2.2.2.2.2.2.2.2.2.2.2.2.2.2.2.2.2.2.1
abbrev Mt.hi (C : Mt) : Int := C.2.2.2.2.2.2.2.2.2.2.2.2.2.2.2.2.2.2.2.2.2.2.2.2.2.2.2.1
abbrev Mt.p0 (C : Mt) : Int := C.2.2.2.2.2.2.2.2.2.2.2.2.2.2.2.2.2.2.2.2.2.2.2.2.2.2.2.2.1
abbrev Mt.tk (C : Mt) : Int := C.2.2.2.2.2.2.2.2.2.2.2.2.2.2.2.2.2.2.2.2.2.2.2.2.2.2.2.2.2.1
abbrev Mt.ki (C : Mt) : Value := C.2.2.2.2.2.2.2.2.2.2.2.2.2.2.2.2.2.2.2.2.2.2.2.2.2.2.2.2.2.2.1
abbrev Mt.un (C : Mt) : Int → Int := C.2.2.2.2.2.2.2.2.2.2.2.2.2.2.2.2.2.2.2.2.2.2.2.2.2.2.2.2.2.2.2.1
abbrev Mt.sd (C : Mt) : Int := C.2.2.2.2.2.2.2.2.2.2.2.2.2.2.2.2.2.2.2.2.2.2.2.2.2.2.2.2.2.2.2.2.1
abbrev Mt.be (C : Mt) : Int → Int := C.2.2.2.2.2.2.2.2.2.2.2.2.2.2.2.2.2.2.2.2.2.2.2.2.2.2.2.2.2.2.2.2.2
abbrev Mt.set_h (C : Mt) (v : Int → Int) : Mt := (v, Mt.n C, Mt.kd C, Mt.fg C, Mt.ag C, Mt.po C, Mt.wy C, Mt.dy C, Mt.hw C, Mt.kk C, Mt.kf C, Mt.rs C, Mt.rm C, Mt.rw C, Mt.th C, Mt.aw C, Mt.gr C, Mt.wa C, Mt.re C, Mt.pl C, Mt.ib C, Mt.sn C, Mt.pi C, Mt.lo C, Mt.to C, Mt.ke C, Mt.im C, Mt.hi C, Mt.p0 C, Mt.tk C, Mt.ki C, Mt.un C, Mt.sd C, Mt.be C)
abbrev Mt.set_n (C : Mt) (v : Int) : Mt := (Mt.h C, v, Mt.kd C, Mt.fg C, Mt.ag C, Mt.po C, Mt.wy C, Mt.dy C, Mt.hw C, Mt.kk C, Mt.kf C, Mt.rs C, Mt.rm C, Mt.rw C, Mt.th C, Mt.aw C, Mt.gr C, Mt.wa C, Mt.re C, Mt.pl C, Mt.ib C, Mt.sn C, Mt.pi C, Mt.lo C, Mt.to C, Mt.ke C, Mt.im C, Mt.hi C, Mt.p0 C, Mt.tk C, Mt.ki C, Mt.un C, Mt.sd C, Mt.be C)
abbrev Mt.set_kd (C : Mt) (v : Int → Int) : Mt := (Mt.h C, Mt.n C, v, Mt.fg C, Mt.ag C, Mt.po C, Mt.wy C, Mt.dy C, Mt.hw C, Mt.kk C, Mt.kf C, Mt.rs C, Mt.rm C, Mt.rw C, Mt.th C, Mt.aw C, Mt.gr C, Mt.wa C, Mt.re C, Mt.pl C, Mt.ib C, Mt.sn C, Mt.pi C, Mt.lo C, Mt.to C, Mt.ke C, Mt.im C, Mt.hi C, Mt.p0 C, Mt.tk C, Mt.ki C, Mt.un C, Mt.sd C, Mt.be C)
abbrev Mt.set_fg (C : Mt) (v : Int → Int) : Mt := (Mt.h C, Mt.n C, Mt.kd C, v, Mt.ag C, Mt.po C, Mt.wy C, Mt.dy C, Mt.hw C, Mt.kk C, Mt.kf C, Mt.rs C, Mt.rm C, Mt.rw C, Mt.th C, Mt.aw C, Mt.gr C, Mt.wa C, Mt.re C, Mt.pl C, Mt.ib C, Mt.sn C, Mt.pi C, Mt.lo C, Mt.to C, Mt.ke C, Mt.im C, Mt.hi C, Mt.p0 C, Mt.tk C, Mt.ki C, Mt.un C, Mt.sd C, Mt.be C)
abbrev Mt.set_ag (C : Mt) (v : Int → Int) : Mt := (Mt.h C, Mt.n C, Mt.kd C, Mt.fg C, v, Mt.po C, Mt.wy C, Mt.dy C, Mt.hw C, Mt.kk C, Mt.kf C, Mt.rs C, Mt.rm C, Mt.rw C, Mt.th C, Mt.aw C, Mt.gr C, Mt.wa C, Mt.re C, Mt.pl C, Mt.ib C, Mt.sn C, Mt.pi C, Mt.lo C, Mt.to C, Mt.ke C, Mt.im C, Mt.hi C, Mt.p0 C, Mt.tk C, Mt.ki C, Mt.un C, Mt.sd C, Mt.be C)
abbrev Mt.set_po (C : Mt) (v : Int → Int) : Mt := (Mt.h C, Mt.n C, Mt.kd C, Mt.fg C, Mt.ag C, v, Mt.wy C, Mt.dy C, Mt.hw C, Mt.kk C, Mt.kf C, Mt.rs C, Mt.rm C, Mt.rw C, Mt.th C, Mt.aw C, Mt.gr C, Mt.wa C, Mt.re C, Mt.pl C, Mt.ib C, Mt.sn C, Mt.pi C, Mt.lo C, Mt.to C, Mt.ke C, Mt.im C, Mt.hi C, Mt.p0 C, Mt.tk C, Mt.ki C, Mt.un C, Mt.sd C, Mt.be C)
abbrev Mt.set_wy (C : Mt) (v : Int → Int) : Mt := (Mt.h C, Mt.n C, Mt.kd C, Mt.fg C, Mt.ag C, Mt.po C, v, Mt.dy C, Mt.hw C, Mt.kk C, Mt.kf C, Mt.rs C, Mt.rm C, Mt.rw C, Mt.th C, Mt.aw C, Mt.gr C, Mt.wa C, Mt.re C, Mt.pl C, Mt.ib C, Mt.sn C, Mt.pi C, Mt.lo C, Mt.to C, Mt.ke C, Mt.im C, Mt.hi C, Mt.p0 C, Mt.tk C, Mt.ki C, Mt.un C, Mt.sd C, Mt.be C)
abbrev Mt.set_dy (C : Mt) (v : Int) : Mt := (Mt.h C, Mt.n C, Mt.kd C, Mt.fg C, Mt.ag C, Mt.po C, Mt.wy C, v, Mt.hw C, Mt.kk C, Mt.kf C, Mt.rs C, Mt.rm C, Mt.rw C, Mt.th C, Mt.aw C, Mt.gr C, Mt.wa C, Mt.re C, Mt.pl C, Mt.ib C, Mt.sn C, Mt.pi C, Mt.lo C, Mt.to C, Mt.ke C, Mt.im C, Mt.hi C, Mt.p0 C, Mt.tk C, Mt.ki C, Mt.un C, Mt.sd C, Mt.be C)
abbrev Mt.set_hw (C : Mt) (v : Int → Int) : Mt := (Mt.h C, Mt.n C, Mt.kd C, Mt.fg C, Mt.ag C, Mt.po C, Mt.wy C, Mt.dy C, v, Mt.kk C, Mt.kf C, Mt.rs C, Mt.rm C, Mt.rw C, Mt.th C, Mt.aw C, Mt.gr C, Mt.wa C, Mt.re C, Mt.pl C, Mt.ib C, Mt.sn C, Mt.pi C, Mt.lo C, Mt.to C, Mt.ke C, Mt.im C, Mt.hi C, Mt.p0 C, Mt.tk C, Mt.ki C, Mt.un C, Mt.sd C, Mt.be C)
abbrev Mt.set_kk (C : Mt) (v : Int → Int) : Mt := (Mt.h C, Mt.n C, Mt.kd C, Mt.fg C, Mt.ag C, Mt.po C, Mt.wy C, Mt.dy C, Mt.hw C, v, Mt.kf C, Mt.rs C, Mt.rm C, Mt.rw C, Mt.th C, Mt.aw C, Mt.gr C, Mt.wa C, Mt.re C, Mt.pl C, Mt.ib C, Mt.sn C, Mt.pi C, Mt.lo C, Mt.to C, Mt.ke C, Mt.im C, Mt.hi C, Mt.p0 C, Mt.tk C, Mt.ki C, Mt.un C, Mt.sd C, Mt.be C)
abbrev Mt.set_kf (C : Mt) (v : Int → Int) : Mt := (Mt.h C, Mt.n C, Mt.kd C, Mt.fg C, Mt.ag C, Mt.po C, Mt.wy C, Mt.dy C, Mt.hw C, Mt.kk C, v, Mt.rs C, Mt.rm C, Mt.rw C, Mt.th C, Mt.aw C, Mt.gr C, Mt.wa C, Mt.re C, Mt.pl C, Mt.ib C, Mt.sn C, Mt.pi C, Mt.lo C, Mt.to C, Mt.ke C, Mt.im C, Mt.hi C, Mt.p0 C, Mt.tk C, Mt.ki C, Mt.un C, Mt.sd C, Mt.be C)
abbrev Mt.set_rs (C : Mt) (v : Int → Int) : Mt := (Mt.h C, Mt.n C, Mt.kd C, Mt.fg C, Mt.ag C, Mt.po C, Mt.wy C, Mt.dy C, Mt.hw C, Mt.kk C, Mt.kf C, v, Mt.rm C, Mt.rw C, Mt.th C, Mt.aw C, Mt.gr C, Mt.wa C, Mt.re C, Mt.pl C, Mt.ib C, Mt.sn C, Mt.pi C, Mt.lo C, Mt.to C, Mt.ke C, Mt.im C, Mt.hi C, Mt.p0 C, Mt.tk C, Mt.ki C, Mt.un C, Mt.sd C, Mt.be C)
abbrev Mt.set_rm (C : Mt) (v : Int → Int) : Mt := (Mt.h C, Mt.n C, Mt.kd C, Mt.fg C, Mt.ag C, Mt.po C, Mt.wy C, Mt.dy C, Mt.hw C, Mt.kk C, Mt.kf C, Mt.rs C, v, Mt.rw C, Mt.th C, Mt.aw C, Mt.gr C, Mt.wa C, Mt.re C, Mt.pl C, Mt.ib C, Mt.sn C, Mt.pi C, Mt.lo C, Mt.to C, Mt.ke C, Mt.im C, Mt.hi C, Mt.p0 C, Mt.tk C, Mt.ki C, Mt.un C, Mt.sd C, Mt.be C)
abbrev Mt.set_rw (C : Mt) (v : Int → Int) : Mt := (Mt.h C, Mt.n C, Mt.kd C, Mt.fg C, Mt.ag C, Mt.po C, Mt.wy C, Mt.dy C, Mt.hw C, Mt.kk C, Mt.kf C, Mt.rs C, Mt.rm C, v, Mt.th C, Mt.aw C, Mt.gr C, Mt.wa C, Mt.re C, Mt.pl C, Mt.ib C, Mt.sn C, Mt.pi C, Mt.lo C, Mt.to C, Mt.ke C, Mt.im C, Mt.hi C, Mt.p0 C, Mt.tk C, Mt.ki C, Mt.un C, Mt.sd C, Mt.be C)
abbrev Mt.set_th (C : Mt) (v : Int) : Mt := (Mt.h C, Mt.n C, Mt.kd C, Mt.fg C, Mt.ag C, Mt.po C, Mt.wy C, Mt.dy C, Mt.hw C, Mt.kk C, Mt.kf C, Mt.rs C, Mt.rm C, Mt.rw C, v, Mt.aw C, Mt.gr C, Mt.wa C, Mt.re C, Mt.pl C, Mt.ib C, Mt.sn C, Mt.pi C, Mt.lo C, Mt.to C, Mt.ke C, Mt.im C, Mt.hi C, Mt.p0 C, Mt.tk C, Mt.ki C, Mt.un C, Mt.sd C, Mt.be C)
abbrev Mt.set_aw (C : Mt) (v : Int) : Mt := (Mt.h C, Mt.n C, Mt.kd C, Mt.fg C, Mt.ag C, Mt.po C, Mt.wy C, Mt.dy C, Mt.hw C, Mt.kk C, Mt.kf C, Mt.rs C, Mt.rm C, Mt.rw C, Mt.th C, v, Mt.gr C, Mt.wa C, Mt.re C, Mt.pl C, Mt.ib C, Mt.sn C, Mt.pi C, Mt.lo C, Mt.to C, Mt.ke C, Mt.im C, Mt.hi C, Mt.p0 C, Mt.tk C, Mt.ki C, Mt.un C, Mt.sd C, Mt.be C)
abbrev Mt.set_gr (C : Mt) (v : Int → Int) : Mt := (Mt.h C, Mt.n C, Mt.kd C, Mt.fg C, Mt.ag C, Mt.po C, Mt.wy C, Mt.dy C, Mt.hw C, Mt.kk C, Mt.kf C, Mt.rs C, Mt.rm C, Mt.rw C, Mt.th C, Mt.aw C, v, Mt.wa C, Mt.re C, Mt.pl C, Mt.ib C, Mt.sn C, Mt.pi C, Mt.lo C, Mt.to C, Mt.ke C, Mt.im C, Mt.hi C, Mt.p0 C, Mt.tk C, Mt.ki C, Mt.un C, Mt.sd C, Mt.be C)
abbrev Mt.set_wa (C : Mt) (v : Int → Int) : Mt := (Mt.h C, Mt.n C, Mt.kd C, Mt.fg C, Mt.ag C, Mt.po C, Mt.wy C, Mt.dy C, Mt.hw C, Mt.kk C, Mt.kf C, Mt.rs C, Mt.rm C, Mt.rw C, Mt.th C, Mt.aw C, Mt.gr C, v, Mt.re C, Mt.pl C, Mt.ib C, Mt.sn C, Mt.pi C, Mt.lo C, Mt.to C, Mt.ke C, Mt.im C, Mt.hi C, Mt.p0 C, Mt.tk C, Mt.ki C, Mt.un C, Mt.sd C, Mt.be C)
abbrev Mt.set_re (C : Mt) (v : Int) : Mt := (Mt.h C, Mt.n C, Mt.kd C, Mt.fg C, Mt.ag C, Mt.po C, Mt.wy C, Mt.dy C, Mt.hw C, Mt.kk C, Mt.kf C, Mt.rs C, Mt.rm C, Mt.rw C, Mt.th C, Mt.aw C, Mt.gr C, Mt.wa C, v, Mt.pl C, Mt.ib C, Mt.sn C, Mt.pi C, Mt.lo C, Mt.to C, Mt.ke C, Mt.im C, Mt.hi C, Mt.p0 C, Mt.tk C, Mt.ki C, Mt.un C, Mt.sd C, Mt.be C)
abbrev Mt.set_pl (C : Mt) (v : Int) : Mt := (Mt.h C, Mt.n C, Mt.kd C, Mt.fg C, Mt.ag C, Mt.po C, Mt.wy C, Mt.dy C, Mt.hw C, Mt.kk C, Mt.kf C, Mt.rs C, Mt.rm C, Mt.rw C, Mt.th C, Mt.aw C, Mt.gr C, Mt.wa C, Mt.re C, v, Mt.ib C, Mt.sn C, Mt.pi C, Mt.lo C, Mt.to C, Mt.ke C, Mt.im C, Mt.hi C, Mt.p0 C, Mt.tk C, Mt.ki C, Mt.un C, Mt.sd C, Mt.be C)
abbrev Mt.set_ib (C : Mt) (v : Int) : Mt := (Mt.h C, Mt.n C, Mt.kd C, Mt.fg C, Mt.ag C, Mt.po C, Mt.wy C, Mt.dy C, Mt.hw C, Mt.kk C, Mt.kf C, Mt.rs C, Mt.rm C, Mt.rw C, Mt.th C, Mt.aw C, Mt.gr C, Mt.wa C, Mt.re C, Mt.pl C, v, Mt.sn C, Mt.pi C, Mt.lo C, Mt.to C, Mt.ke C, Mt.im C, Mt.hi C, Mt.p0 C, Mt.tk C, Mt.ki C, Mt.un C, Mt.sd C, Mt.be C)
abbrev Mt.set_sn (C : Mt) (v : Int) : Mt := (Mt.h C, Mt.n C, Mt.kd C, Mt.fg C, Mt.ag C, Mt.po C, Mt.wy C, Mt.dy C, Mt.hw C, Mt.kk C, Mt.kf C, Mt.rs C, Mt.rm C, Mt.rw C, Mt.th C, Mt.aw C, Mt.gr C, Mt.wa C, Mt.re C, Mt.pl C, Mt.ib C, v, Mt.pi C, Mt.lo C, Mt.to C, Mt.ke C, Mt.im C, Mt.hi C, Mt.p0 C, Mt.tk C, Mt.ki C, Mt.un C, Mt.sd C, Mt.be C)
abbrev Mt.set_pi (C : Mt) (v : Int → Int) : Mt := (Mt.h C, Mt.n C, Mt.kd C, Mt.fg C, Mt.ag C, Mt.po C, Mt.wy C, Mt.dy C, Mt.hw C, Mt.kk C, Mt.kf C, Mt.rs C, Mt.rm C, Mt.rw C, Mt.th C, Mt.aw C, Mt.gr C, Mt.wa C, Mt.re C, Mt.pl C, Mt.ib C, Mt.sn C, v, Mt.lo C, Mt.to C, Mt.ke C, Mt.im C, Mt.hi C, Mt.p0 C, Mt.tk C, Mt.ki C, Mt.un C, Mt.sd C, Mt.be C)
abbrev Mt.set_lo (C : Mt) (v : Int → Int) : Mt := (Mt.h C, Mt.n C, Mt.kd C, Mt.fg C, Mt.ag C, Mt.po C, Mt.wy C, Mt.dy C, Mt.hw C, Mt.kk C, Mt.kf C, Mt.rs C, Mt.rm C, Mt.rw C, Mt.th C, Mt.aw C, Mt.gr C, Mt.wa C, Mt.re C, Mt.pl C, Mt.ib C, Mt.sn C, Mt.pi C, v, Mt.to C, Mt.ke C, Mt.im C, Mt.hi C, Mt.p0 C, Mt.tk C, Mt.ki C, Mt.un C, Mt.sd C, Mt.be C)
abbrev Mt.set_to (C : Mt) (v : Int → Int) : Mt := (Mt.h C, Mt.n C, Mt.kd C, Mt.fg C, Mt.ag C, Mt.po C, Mt.wy C, Mt.dy C, Mt.hw C, Mt.kk C, Mt.kf C, Mt.rs C, Mt.rm C, Mt.rw C, Mt.th C, Mt.aw C, Mt.gr C, Mt.wa C, Mt.re C, Mt.pl C, Mt.ib C, Mt.sn C, Mt.pi C, Mt.lo C, v, Mt.ke C, Mt.im C, Mt.hi C, Mt.p0 C, Mt.tk C, Mt.ki C, Mt.un C, Mt.sd C, Mt.be C)
abbrev Mt.set_ke (C : Mt) (v : Int → Int) : Mt := (Mt.h C, Mt.n C, Mt.kd C, Mt.fg C, Mt.ag C, Mt.po C, Mt.wy C, Mt.dy C, Mt.hw C, Mt.kk C, Mt.kf C, Mt.rs C, Mt.rm C, Mt.rw C, Mt.th C, Mt.aw C, Mt.gr C, Mt.wa C, Mt.re C, Mt.pl C, Mt.ib C, Mt.sn C, Mt.pi C, Mt.lo C, Mt.to C, v, Mt.im C, Mt.hi C, Mt.p0 C, Mt.tk C, Mt.ki C, Mt.un C, Mt.sd C, Mt.be C)
abbrev Mt.set_im (C : Mt) (v : Int → Int) : Mt := (Mt.h C, Mt.n C, Mt.kd C, Mt.fg C, Mt.ag C, Mt.po C, Mt.wy C, Mt.dy C, Mt.hw C, Mt.kk C, Mt.kf C, Mt.rs C, Mt.rm C, Mt.rw C, Mt.th C, Mt.aw C, Mt.gr C, Mt.wa C, Mt.re C, Mt.pl C, Mt.ib C, Mt.sn C, Mt.pi C, Mt.lo C, Mt.to C, Mt.ke C, v, Mt.hi C, Mt.p0 C, Mt.tk C, Mt.ki C, Mt.un C, Mt.sd C, Mt.be C)
abbrev Mt.set_hi (C : Mt) (v : Int) : Mt := (Mt.h C, Mt.n C, Mt.kd C, Mt.fg C, Mt.ag C, Mt.po C, Mt.wy C, Mt.dy C, Mt.hw C, Mt.kk C, Mt.kf C, Mt.rs C, Mt.rm C, Mt.rw C, Mt.th C, Mt.aw C, Mt.gr C, Mt.wa C, Mt.re C, Mt.pl C, Mt.ib C, Mt.sn C, Mt.pi C, Mt.lo C, Mt.to C, Mt.ke C, Mt.im C, v, Mt.p0 C, Mt.tk C, Mt.ki C, Mt.un C, Mt.sd C, Mt.be C)
abbrev Mt.set_p0 (C : Mt) (v : Int) : Mt := (Mt.h C, Mt.n C, Mt.kd C, Mt.fg C, Mt.ag C, Mt.po C, Mt.wy C, Mt.dy C, Mt.hw C, Mt.kk C, Mt.kf C, Mt.rs C, Mt.rm C, Mt.rw C, Mt.th C, Mt.aw C, Mt.gr C, Mt.wa C, Mt.re C, Mt.pl C, Mt.ib C, Mt.sn C, Mt.pi C, Mt.lo C, Mt.to C, Mt.ke C, Mt.im C, Mt.hi C, v, Mt.tk C, Mt.ki C, Mt.un C, Mt.sd C, Mt.be C)
abbrev Mt.set_tk (C : Mt) (v : Int) : Mt := (Mt.h C, Mt.n C, Mt.kd C, Mt.fg C, Mt.ag C, Mt.po C, Mt.wy C, Mt.dy C, Mt.hw C, Mt.kk C, Mt.kf C, Mt.rs C, Mt.rm C, Mt.rw C, Mt.th C, Mt.aw C, Mt.gr C, Mt.wa C, Mt.re C, Mt.pl C, Mt.ib C, Mt.sn C, Mt.pi C, Mt.lo C, Mt.to C, Mt.ke C, Mt.im C, Mt.hi C, Mt.p0 C, v, Mt.ki C, Mt.un C, Mt.sd C, Mt.be C)
abbrev Mt.set_ki (C : Mt) (v : Value) : Mt := (Mt.h C, Mt.n C, Mt.kd C, Mt.fg C, Mt.ag C, Mt.po C, Mt.wy C, Mt.dy C, Mt.hw C, Mt.kk C, Mt.kf C, Mt.rs C, Mt.rm C, Mt.rw C, Mt.th C, Mt.aw C, Mt.gr C, Mt.wa C, Mt.re C, Mt.pl C, Mt.ib C, Mt.sn C, Mt.pi C, Mt.lo C, Mt.to C, Mt.ke C, Mt.im C, Mt.hi C, Mt.p0 C, Mt.tk C, v, Mt.un C, Mt.sd C, Mt.be C)
abbrev Mt.set_un (C : Mt) (v : Int → Int) : Mt := (Mt.h C, Mt.n C, Mt.kd C, Mt.fg C, Mt.ag C, Mt.po C, Mt.wy C, Mt.dy C, Mt.hw C, Mt.kk C, Mt.kf C, Mt.rs C, Mt.rm C, Mt.rw C, Mt.th C, Mt.aw C, Mt.gr C, Mt.wa C, Mt.re C, Mt.pl C, Mt.ib C, Mt.sn C, Mt.pi C, Mt.lo C, Mt.to C, Mt.ke C, Mt.im C, Mt.hi C, Mt.p0 C, Mt.tk C, Mt.ki C, v, Mt.sd C, Mt.be C)
abbrev Mt.set_sd (C : Mt) (v : Int) : Mt := (Mt.h C, Mt.n C, Mt.kd C, Mt.fg C, Mt.ag C, Mt.po C, Mt.wy C, Mt.dy C, Mt.hw C, Mt.kk C, Mt.kf C, Mt.rs C, Mt.rm C, Mt.rw C, Mt.th C, Mt.aw C, Mt.gr C, Mt.wa C, Mt.re C, Mt.pl C, Mt.ib C, Mt.sn C, Mt.pi C, Mt.lo C, Mt.to C, Mt.ke C, Mt.im C, Mt.hi C, Mt.p0 C, Mt.tk C, Mt.ki C, Mt.un C, v, Mt.be C)
abbrev Mt.set_be (C : Mt) (v : Int → Int) : Mt := (Mt.h C, Mt.n C, Mt.kd C, Mt.fg C, Mt.ag C, Mt.po C, Mt.wy C, Mt.dy C, Mt.hw C, Mt.kk C, Mt.kf C, Mt.rs C, Mt.rm C, Mt.rw C, Mt.th C, Mt.aw C, Mt.gr C, Mt.wa C, Mt.re C, Mt.pl C, Mt.ib C, Mt.sn C, Mt.pi C, Mt.lo C, Mt.to C, Mt.ke C, Mt.im C, Mt.hi C, Mt.p0 C, Mt.tk C, Mt.ki C, Mt.un C, Mt.sd C, v)
/-- the reference's cells -/
def WM (γ : GX) (a : Nat → Nat) (M : Mt) : va_W := [(a 0, ob 11 [.ref (a 1), .int (iN (Mt.n M)), .ref (a 2), .ref (a 3), .ref (a 4), .ref (a 5), .ref (a 6), .int (iN (Mt.dy M)), .ref (a 7), .ref (a 8), .ref (a 9), .ref (a 10), .ref (a 11), .ref (a 12), .int (iN (Mt.th M)), .int (iN (Mt.aw M)), .ref (a 13), .ref (a 14), .int (iN (Mt.re M)), .int (iN (Mt.pl M)), .int (iN (Mt.ib M)), .int (iN (Mt.sn M)), .ref (a 15), .ref (a 16), .ref (a 17), .ref (a 18), .ref (a 19), .int (iN (Mt.hi M)), .int (iN (Mt.p0 M)), .int (iN (Mt.tk M)), Mt.ki M, .ref (a 20), .int (iN (Mt.sd M)), .ref (a 21)]), (a 1, aI γ 15 (Mt.h M)), (a 2, aI γ 6 (Mt.kd M)), (a 3, aI γ 6 (Mt.fg M)), (a 4, aI γ 6 (Mt.ag M)), (a 5, aI γ 6 (Mt.po M)), (a 6, aI γ 6 (Mt.wy M)), (a 7, aI γ 8 (Mt.hw M)), (a 8, aI γ 8 (Mt.kk M)), (a 9, aI γ 8 (Mt.kf M)), (a 10, aI γ 8 (Mt.rs M)), (a 11, aI γ 8 (Mt.rm M)), (a 12, aJ γ 800 (Mt.rw M)), (a 13, aI γ 15 (Mt.gr M)), (a 14, aI γ 15 (Mt.wa M)), (a 15, aI γ 51 (Mt.pi M)), (a 16, aI γ 51 (Mt.lo M)), (a 17, aI γ 204 (Mt.to M)), (a 18, aI γ 47 (Mt.ke M)), (a 19, aI γ 47 (Mt.im M)), (a 20, aI γ 8 (Mt.un M)), (a 21, aJ γ 100 (Mt.be M))]
def WFm (M : Mt) : Prop := (0 ≤ Mt.n M ∧ Mt.n M ≤ 6) ∧ bd (Mt.h M) 0 20 ∧ bd (Mt.kd M) 0 7 ∧ bd (Mt.fg M) 0 9 ∧ bd (Mt.ag M) 0 120 ∧ bd (Mt.po M) 0 14 ∧ bd (Mt.wy M) (-1) 1 ∧ bd (Mt.hw M) 0 2 ∧ bd (Mt.kk M) 0 7 ∧ bd (Mt.kf M) 0 9 ∧ bd (Mt.rs M) 0 2 ∧ bd (Mt.rm M) 0 100 ∧ bd (Mt.rw M) (-2147483648) 2147483647
theorem WFm.n {M : Mt} (h : WFm M) : 0 ≤ Mt.n M ∧ Mt.n M ≤ 6 := h.1
theorem WFm.h {M : Mt} (h : WFm M) : bd (Mt.h M) 0 20 := h.2.1
theorem WFm.kd {M : Mt} (h : WFm M) : bd (Mt.kd M) 0 7 := h.2.2.1
theorem WFm.fg {M : Mt} (h : WFm M) : bd (Mt.fg M) 0 9 := h.2.2.2.1
theorem WFm.ag {M : Mt} (h : WFm M) : bd (Mt.ag M) 0 120 := h.2.2.2.2.1
theorem WFm.po {M : Mt} (h : WFm M) : bd (Mt.po M) 0 14 := h.2.2.2.2.2.1
theorem WFm.wy {M : Mt} (h : WFm M) : bd (Mt.wy M) (-1) 1 := h.2.2.2.2.2.2.1
theorem WFm.hw {M : Mt} (h : WFm M) : bd (Mt.hw M) 0 2 := h.2.2.2.2.2.2.2.1
theorem WFm.kk {M : Mt} (h : WFm M) : bd (Mt.kk M) 0 7 := h.2.2.2.2.2.2.2.2.1
theorem WFm.kf {M : Mt} (h : WFm M) : bd (Mt.kf M) 0 9 := h.2.2.2.2.2.2.2.2.2.1
theorem WFm.rs {M : Mt} (h : WFm M) : bd (Mt.rs M) 0 2 := h.2.2.2.2.2.2.2.2.2.2.1
theorem WFm.rm {M : Mt} (h : WFm M) : bd (Mt.rm M) 0 100 := h.2.2.2.2.2.2.2.2.2.2.2.1
theorem WFm.rw {M : Mt} (h : WFm M) : bd (Mt.rw M) (-2147483648) 2147483647 := h.2.2.2.2.2.2.2.2.2.2.2.2
theorem WFm.posn {M : Mt} (h : WFm M) {p : Int → Int} (hp : bd p 0 14) : WFm (Mt.set_po M p) := ⟨h.n, h.h, h.kd, h.fg, h.ag, hp, h.wy, h.hw, h.kk, h.kf, h.rs, h.rm, h.rw⟩
theorem WFm.pw {M : Mt} (h : WFm M) {p q : Int → Int} (hp : bd p 0 14) (hq : bd q (-1) 1) : WFm (Mt.set_wy (Mt.set_po M p) q) := ⟨h.n, h.h, h.kd, h.fg, h.ag, hp, hq, h.hw, h.kk, h.kf, h.rs, h.rm, h.rw⟩
abbrev Mt.pr (M : Mt) : Int → Int := fun i => prF (Mt.kd M i) (Mt.fg M i) (Mt.ag M i)
abbrev Mt.sp (M : Mt) : Int → Int := fun i => spF (Mt.kd M i)
abbrev Mt.sr (M : Mt) : Int → Int := fun i => srF (Mt.kd M i) (Mt.fg M i)
/-- what one presses, if he isn't away -/
abbrev Mt.pa (M : Mt) : Int → Int := fun i => if btz (Mt.aw M) i then 0 else Mt.pr M i
/-- the reference's country as the class has it -/
def Mt.L (M : Mt) : Ct := (Mt.h M, Mt.n M, Mt.dy M, Mt.kd M, Mt.fg M, Mt.ag M, Mt.po M, Mt.wy M, Mt.pr M, Mt.sp M, Mt.sr M, fun _ => 0)
/-- the same with those away pressing nothing -/
def Mt.La (M : Mt) : Ct := Ct.set_pr (Mt.L M) (Mt.pa M)
theorem WFm.pr {M : Mt} (h : WFm M) : bd (Mt.pr M) 0 16 := fun i => prF_b (h.fg i) (h.ag i)
theorem WFm.sp {M : Mt} (_ : WFm M) : bd (Mt.sp M) 0 2 := fun i => spF_b _
theorem WFm.sr {M : Mt} (h : WFm M) : bd (Mt.sr M) 0 6 := fun i => srF_b (h.fg i)
theorem WFm.pa {M : Mt} (h : WFm M) : bd (Mt.pa M) 0 16 := fun i => by
  have := h.pr i
  simp only [Mt.pa]
  split <;> omega
theorem WFm.L {M : Mt} (h : WFm M) : WFc (Mt.L M) := ⟨h.n, h.h, h.kd, h.fg, h.ag, h.po, h.wy, h.pr, h.sp, h.sr⟩
theorem WFm.La {M : Mt} (h : WFm M) : WFc (Mt.La M) := ⟨h.n, h.h, h.kd, h.fg, h.ag, h.po, h.wy, h.pa, h.sp, h.sr⟩
theorem btz_0 (i : Int) : ¬ btz 0 i := by simp
theorem Mt.La_L {M : Mt} (h : Mt.aw M = 0) : Mt.La M = Mt.L M := by
  have e : Mt.pa M = Mt.pr M := by
    funext i
    simp only [Mt.pa]
    rw [h, if_neg (btz_0 i)]
  unfold Mt.La
  rw [e]
  rfl
end HMST
