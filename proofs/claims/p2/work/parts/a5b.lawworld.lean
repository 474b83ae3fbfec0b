def hTold (T : zTy) (h : Nat) (l0 : Nat) (l1 : Nat) (d0 : Nat) (d1 : Nat) (g0 : Nat) (g1 : Nat) (ln : Int32) (w : va_W) : Prop := ∃ (fl : Int32) (pl : Int32) (ft : Nat → Int32) (fk : Nat → Int32), bTold T h l0 l1 d0 d1 g0 g1 ln fl pl ft fk w ∧ zKT fk
def hLand (T : zTy) (h : Nat) (w : va_W) : Prop := ∃ (cr : Int32) (inn : Int32) (f1 : Nat → Int32) (f2 : Nat → Int32) (f3 : Nat → Int32) (f4 : Nat → Int32), bLand T h cr inn f1 f2 f3 f4 w ∧ zLI cr f1 f3
def hLandR (T : zTy) (h : Nat) (w : va_W) : Prop := ∃ (cr : Int32) (inn : Int32) (f1 : Nat → Int32) (f2 : Nat → Int32) (f3 : Nat → Int32) (f4 : Nat → Int32), bLand T h cr inn f1 f2 f3 f4 w
def hDay (T : zTy) (h : Nat) (w : va_W) : Prop := ∃ (dd : Int32) (f1 : Nat → Int32) (f2 : Nat → Int32) (f3 : Nat → Int32), bDay T h dd f1 f2 f3 w
def hLog (T : zTy) (h : Nat) (w : va_W) : Prop := ∃ (gg : Int32) (f1 : Nat → Int32) (f2 : Nat → Int32), bLog T h gg f1 f2 w
def hWays (T : zTy) (h : Nat) (md : Int32) (n4 : Nat) (own : Nat) (w : va_W) : Prop := ∃ (la : Nat) (wy : Int32) (pc_ : Int32) (f1 : Nat → Int32) (f2 : Nat → Int32) (f3 : Nat → Int32) (f4 : Nat → Int32) (f5 : Nat → Int32) (f6 : Nat → Int32), bWays T h la md wy pc_ f1 f2 f3 f4 f5 f6 n4 w ∧ zPw n4 ∧ (md = 0 ∨ la = own) ∧ (0 ≤ wy.toInt ∧ wy.toInt ≤ 16384)
def hFit (T : zTy) (h : Nat) (v0 : Int32) (v1 : Int32) (n1 : Nat) (w : va_W) : Prop := ∃ (v2 : Int32) (v3 : Int32) (v4 : Int32) (v5 : Int32) (f1 : Nat → Int32) (f2 : Nat → Int32), bFit T h v0 v1 v2 v3 v4 v5 f1 n1 f2 w ∧ zFw n1 ∧ 0 ≤ v3.toInt
def hCourse (T : zTy) (h : Nat) (po : Nat) (w : va_W) : Prop := ∃ (la : Nat) (fw : Nat → Int32) (v0 : Int32) (v1 : Int32) (v2 : Int32) (v3 : Int32) (v4 : Int32) (v5 : Int32) (v6 : Int32) (v7 : Int32), bCourse T h po la fw v0 v1 v2 v3 v4 v5 v6 v7 w
def hPosts (T : zTy) (h : Nat) (w : va_W) : Prop := ∃ (la : Nat) (f1 : Nat → Int32) (f2 : Nat → Int32) (f3 : Nat → Int32) (st : Int32) (wh : Int32), bPosts T h la f1 f2 f3 st wh w
def hTrail (T : zTy) (h : Nat) (po : Nat) (w : va_W) : Prop := ∃ (f1 : Nat → Int32) (f2 : Nat → Int32) (v0 : Int32) (v1 : Int32) (v2 : Int32) (v3 : Int32) (v4 : Int32), bTrail T h po f1 f2 v0 v1 v2 v3 v4 w
structure ZV where
  zzt : Nat
  zzim : Nat
  zzmk : Nat
  zzrd : Nat
  zzpo : Nat
  zzco : Nat
  zztr : Nat
  zzwa : Nat
  zzwb_ : Nat
  zzfi : Nat
  zzcd : Nat
  zzwt : va_W
  zzl0 : Nat
  zzl1 : Nat
  zzd0 : Nat
  zzd1 : Nat
  zzg0 : Nat
  zzg1 : Nat
  zzln : Int32
  zzz0_ : va_W
  zzz1_ : va_W
  zzwd0_ : va_W
  zzwd1_ : va_W
  zzwg0_ : va_W
  zzwg1_ : va_W
  zzrl : Nat
  zzrdd : Nat
  zzrg : Nat
  zzr0 : Int32
  zzr1 : Int32
  zztq : Nat
  zzr2 : Int32
  zzr3 : Int32
  zzr4 : Int32
  zzr5 : Int32
  zzr6 : Int32
  zzr7 : Int32
  zzr8 : Int32
  zzz : va_W
  zzwd : va_W
  zzwg : va_W
  zzwwA : va_W
  zzmdA : Int32
  zzwwB : va_W
  zzmdB : Int32
  zzwff : va_W
  zze0f : Int32
  zze1f : Int32
  zzwc : va_W
  zzcpo : Nat
  zzwcp : va_W
  zzwr : va_W
  zztpo : Nat
  zzwrp : va_W
  zzwp : va_W
  zzfcd : Nat → Int32
  zzm0 : Nat
  zzwta : va_W
  zzl0a : Nat
  zzl1a : Nat
  zzd0a : Nat
  zzd1a : Nat
  zzg0a : Nat
  zzg1a : Nat
  zzlna : Int32
  zzz0_a : va_W
  zzz1_a : va_W
  zzwd0_a : va_W
  zzwd1_a : va_W
  zzwg0_a : va_W
  zzwg1_a : va_W
  zzm1 : Nat
  zzwtb : va_W
  zzl0b : Nat
  zzl1b : Nat
  zzd0b : Nat
  zzd1b : Nat
  zzg0b : Nat
  zzg1b : Nat
  zzlnb : Int32
  zzz0_b : va_W
  zzz1_b : va_W
  zzwd0_b : va_W
  zzwd1_b : va_W
  zzwg0_b : va_W
  zzwg1_b : va_W
  zzm2 : Nat
  zzwtc : va_W
  zzl0c : Nat
  zzl1c : Nat
  zzd0c : Nat
  zzd1c : Nat
  zzg0c : Nat
  zzg1c : Nat
  zzlnc : Int32
  zzz0_c : va_W
  zzz1_c : va_W
  zzwd0_c : va_W
  zzwd1_c : va_W
  zzwg0_c : va_W
  zzwg1_c : va_W
  zzqi : Nat → Option Nat
  zzfmk : Nat → Int32
  zzm_all : Nat
  zzm_has : Nat
  zzi_size : Int32
  zzi_next : Int32
  zzi_where : Int32
  zzi_token : Int32
  zzi_number : Int32
  zzi_word : Int32
  zzi_wrong : Int32
  zzi_farCrossing : Int32
  zzm_read : Nat
  zzi_z0 : Int32
  zzi_crossings : Int32
  zzi_inns : Int32
  zzm_posts : Nat
  zzm_shut : Nat
  zzm_here : Nat
  zzi_steps : Int32
  zzi_done : Int32
  zzi_at : Int32
  zzi_gone : Int32
  zzm_was : Nat
  zzm_came : Nat
  zzm_seenAt : Nat
  zzm_rowWorth : Nat
  zzm_farBy : Nat
  zzm_used : Nat
  zzi_everywhere : Int32
  zzi_again0 : Int32
  zzi_d0 : Int32
  zzi_never : Int32
  zzi_firstCame : Int32
  zzi_longRun : Int32
  zzi_moved : Int32
  zzi_crowd : Int32
  zzi_l0 : Int32
  zzi_fitMany : Int32
  zzi_fitLeast : Int32
  zzi_fitMost : Int32
  zzm_fitPost : Nat
  zzm_fitEnd : Nat
  zzm_keptPosts : Nat
  zzi_x0 : Int32
  zzf_all : Nat → Int32
  zzf_has : Nat → Int32
  zzf_read : Nat → Int32
  zzf_posts : Nat → Int32
  zzf_shut : Nat → Int32
  zzf_here : Nat → Int32
  zzf_was : Nat → Int32
  zzf_came : Nat → Int32
  zzf_seenAt : Nat → Int32
  zzf_rowWorth : Nat → Int32
  zzf_farBy : Nat → Int32
  zzf_used : Nat → Int32
  zzf_fitPost : Nat → Int32
  zzf_fitEnd : Nat → Int32
  zzf_keptPosts : Nat → Int32
set_option maxRecDepth 100000 in
set_option maxHeartbeats 4000000 in
def zInv (T : zTy) (xo mo n4A n4B m1f : Nat) (bs : List va_W) : Prop := ∃ v : ZV, bs = [[(xo, .inr (10, [.ref v.zzt, .ref v.zzim, .ref v.zzmk, .ref v.zzrd, .ref v.zzpo, .ref v.zzco, .ref v.zztr, .ref v.zzwa, .ref v.zzwb_, .ref v.zzfi, .ref v.zzcd]))], v.zzwt, v.zzz0_, v.zzz1_, v.zzwd0_, v.zzwd1_, v.zzwg0_, v.zzwg1_, [(v.zzrd, .inr (7, [.ref v.zzrl, .ref v.zzrdd, .ref v.zzrg, .int v.zzr0, .int v.zzr1, .ref v.zztq, .int v.zzr2, .int v.zzr3, .int v.zzr4, .int v.zzr5, .int v.zzr6, .int v.zzr7, .int v.zzr8]))], v.zzz, v.zzwd, v.zzwg, v.zzwwA, v.zzwwB, v.zzwff, v.zzwc, v.zzwcp, v.zzwr, v.zzwrp, v.zzwp, [(v.zzcd, .inl (T.2 0, 1000, .inl v.zzfcd))], v.zzwta, v.zzz0_a, v.zzz1_a, v.zzwd0_a, v.zzwd1_a, v.zzwg0_a, v.zzwg1_a, v.zzwtb, v.zzz0_b, v.zzz1_b, v.zzwd0_b, v.zzwd1_b, v.zzwg0_b, v.zzwg1_b, v.zzwtc, v.zzz0_c, v.zzz1_c, v.zzwd0_c, v.zzwd1_c, v.zzwg0_c, v.zzwg1_c, [(v.zzim, .inl (T.2 6, 3, .inr (.inr (.inr (.inr v.zzqi)))))], [(v.zzmk, .inl (T.2 2, 3, .inl v.zzfmk))], [(mo, .inr (11, [.ref v.zzm_all, .ref v.zzm_has, .int v.zzi_size, .int v.zzi_next, .int v.zzi_where, .int v.zzi_token, .int v.zzi_number, .int v.zzi_word, .int v.zzi_wrong, .int v.zzi_farCrossing, .ref v.zzm_read, .int v.zzi_z0, .int v.zzi_crossings, .int v.zzi_inns, .ref v.zzm_posts, .ref v.zzm_shut, .ref v.zzm_here, .int v.zzi_steps, .int v.zzi_done, .int v.zzi_at, .int v.zzi_gone, .ref v.zzm_was, .ref v.zzm_came, .ref v.zzm_seenAt, .ref v.zzm_rowWorth, .ref v.zzm_farBy, .ref v.zzm_used, .int v.zzi_everywhere, .int v.zzi_again0, .int v.zzi_d0, .int v.zzi_never, .int v.zzi_firstCame, .int v.zzi_longRun, .int v.zzi_moved, .int v.zzi_crowd, .int v.zzi_l0, .int v.zzi_fitMany, .int v.zzi_fitLeast, .int v.zzi_fitMost, .ref v.zzm_fitPost, .ref v.zzm_fitEnd, .ref v.zzm_keptPosts, .int v.zzi_x0]))], [(v.zzm_all, .inl (T.2 0, 3952, .inl v.zzf_all))], [(v.zzm_has, .inl (T.2 2, 3, .inl v.zzf_has))], [(v.zzm_read, .inl (T.2 0, 121, .inl v.zzf_read))], [(v.zzm_posts, .inl (T.2 0, 7, .inl v.zzf_posts))], [(v.zzm_shut, .inl (T.2 0, 7, .inl v.zzf_shut))], [(v.zzm_here, .inl (T.2 0, 7, .inl v.zzf_here))], [(v.zzm_was, .inl (T.2 0, 7, .inl v.zzf_was))], [(v.zzm_came, .inl (T.2 0, 7, .inl v.zzf_came))], [(v.zzm_seenAt, .inl (T.2 0, 16384, .inl v.zzf_seenAt))], [(v.zzm_rowWorth, .inl (T.2 0, 512, .inl v.zzf_rowWorth))], [(v.zzm_farBy, .inl (T.2 0, 49, .inl v.zzf_farBy))], [(v.zzm_used, .inl (T.2 0, 7, .inl v.zzf_used))], [(v.zzm_fitPost, .inl (T.2 0, 28, .inl v.zzf_fitPost))], [(v.zzm_fitEnd, .inl (T.2 0, 49, .inl v.zzf_fitEnd))], [(v.zzm_keptPosts, .inl (T.2 0, 7, .inl v.zzf_keptPosts))]] ∧ hTold T v.zzt v.zzl0 v.zzl1 v.zzd0 v.zzd1 v.zzg0 v.zzg1 v.zzln v.zzwt ∧ hLand T v.zzl0 v.zzz0_ ∧ hLand T v.zzl1 v.zzz1_ ∧ hDay T v.zzd0 v.zzwd0_ ∧ hDay T v.zzd1 v.zzwd1_ ∧ hLog T v.zzg0 v.zzwg0_ ∧ hLog T v.zzg1 v.zzwg1_ ∧ hLandR T v.zzrl v.zzz ∧ hDay T v.zzrdd v.zzwd ∧ hLog T v.zzrg v.zzwg ∧ hWays T v.zzwa v.zzmdA n4A v.zzl0 v.zzwwA ∧ hWays T v.zzwb_ v.zzmdB n4B v.zzl1 v.zzwwB ∧ hFit T v.zzfi v.zze0f v.zze1f m1f v.zzwff ∧ hCourse T v.zzco v.zzcpo v.zzwc ∧ hPosts T v.zzcpo v.zzwcp ∧ hTrail T v.zztr v.zztpo v.zzwr ∧ hPosts T v.zztpo v.zzwrp ∧ hPosts T v.zzpo v.zzwp ∧ hTold T v.zzm0 v.zzl0a v.zzl1a v.zzd0a v.zzd1a v.zzg0a v.zzg1a v.zzlna v.zzwta ∧ hLand T v.zzl0a v.zzz0_a ∧ hLand T v.zzl1a v.zzz1_a ∧ hDay T v.zzd0a v.zzwd0_a ∧ hDay T v.zzd1a v.zzwd1_a ∧ hLog T v.zzg0a v.zzwg0_a ∧ hLog T v.zzg1a v.zzwg1_a ∧ hTold T v.zzm1 v.zzl0b v.zzl1b v.zzd0b v.zzd1b v.zzg0b v.zzg1b v.zzlnb v.zzwtb ∧ hLand T v.zzl0b v.zzz0_b ∧ hLand T v.zzl1b v.zzz1_b ∧ hDay T v.zzd0b v.zzwd0_b ∧ hDay T v.zzd1b v.zzwd1_b ∧ hLog T v.zzg0b v.zzwg0_b ∧ hLog T v.zzg1b v.zzwg1_b ∧ hTold T v.zzm2 v.zzl0c v.zzl1c v.zzd0c v.zzd1c v.zzg0c v.zzg1c v.zzlnc v.zzwtc ∧ hLand T v.zzl0c v.zzz0_c ∧ hLand T v.zzl1c v.zzz1_c ∧ hDay T v.zzd0c v.zzwd0_c ∧ hDay T v.zzd1c v.zzwd1_c ∧ hLog T v.zzg0c v.zzwg0_c ∧ hLog T v.zzg1c v.zzwg1_c ∧ v.zzqi 0 = some v.zzm0 ∧ v.zzqi 1 = some v.zzm1 ∧ v.zzqi 2 = some v.zzm2 ∧ ((0 ≤ v.zzr5.toInt ∧ v.zzr5.toInt ≤ 600) ∧ 0 ≤ v.zzr6.toInt ∧ v.zzr6.toInt ≤ 1000) ∧ (¬ v.zze0f = 0 → v.zze1f.toInt = 0 ∧ ¬ v.zzmdA = 0 ∨ v.zze1f.toInt = 1 ∧ ¬ v.zzmdB = 0) ∧ zAI v.zzf_all ∧ zRl v.zzln v.zzlna v.zzlnb v.zzlnc v.zzf_all ∧ zHs v.zzfmk v.zzf_has
