def px_isNode (x : Int32) : Bool :=
  (if x < 0 then false else (if 3 ≤ x then false else true))
def px_isClient (x : Int32) : Bool :=
  (yb (px_isNode x) fun r1 => (if r1 = true then (if x = 0 then false else true) else false))
def px_isOwnReference (x : Int32) : Bool :=
  (if x < 0 then false else (if 4 ≤ x then false else true))
def px_isSet (x : Int32) : Bool :=
  (if x < 1 then false else (if 15 < x then false else true))
def px_isIn (objs : Int64) (num : Int32) : Bool :=
  (if num < 0 then false else (if 60 ≤ num then false else (if ((ylushr objs num) &&& 1) = 0 then false else true)))
def px_isChosen (set : Int32) (rf : Int32) : Bool :=
  (if ((yiushr set rf) &&& 1) = 0 then false else true)
def nd_isUp (nd : NS) : Bool :=
  nd.2.2.2.2.2.1
def nd_armWith (n : Int32) (nd : NS) : NS :=
  (nd.1, nd.2.1, nd.2.2.1, nd.2.2.2.1, nd.2.2.2.2.1, nd.2.2.2.2.2.1, n)
def nd_write (nd : NS) : Bool × NS :=
  (if nd.2.2.2.2.2.2 = 0 then (false, (nd.1, nd.2.1, nd.2.2.1, nd.2.2.2.1, nd.2.2.2.2.1, false, (-1))) else (if nd.2.2.2.2.2.2 ≤ 0 then (true, nd) else (true, (nd.1, nd.2.1, nd.2.2.1, nd.2.2.2.1, nd.2.2.2.2.1, nd.2.2.2.2.2.1, (nd.2.2.2.2.2.2 - 1)))))
def nd_heldSet (nd : NS) : Int64 :=
  nd.2.2.2.2.1
def nd_keep (num : Int32) (nd : NS) : NS :=
  (if num < 0 then nd else (if 60 ≤ num then nd else (nd.1, nd.2.1, nd.2.2.1, nd.2.2.2.1, nd.2.2.2.2.1 ||| (ylshl 1 num), nd.2.2.2.2.2.1, nd.2.2.2.2.2.2)))
def jl_bitCount (x : Int64) : Int32 :=
  (yb (x - ((ylushr x 1) &&& 6148914691236517205)) fun v1 => (yb ((v1 &&& 3689348814741910323) + ((ylushr v1 2) &&& 3689348814741910323)) fun v2 => (yb ((v2 + (ylushr v2 4)) &&& 1085102592571150095) fun v3 => (yb (v3 + (ylushr v3 8)) fun v4 => (yb (v4 + (ylushr v4 16)) fun v5 => (yb (v5 + (ylushr v5 32)) fun v6 => (v6.toInt32 &&& 127)))))))
def nd_keepOnly (objs : Int64) (nd : NS) : Int32 × NS :=
  (yb (jl_bitCount nd.2.2.2.2.1) fun r1 => (yb (jl_bitCount (nd.2.2.2.2.1 &&& objs)) fun r2 => ((r1 - r2), (nd.1, nd.2.1, nd.2.2.1, nd.2.2.2.1, nd.2.2.2.2.1 &&& objs, nd.2.2.2.2.2.1, nd.2.2.2.2.2.2))))
def nd_valueOf (rf : Int32) (nd : NS) : Int32 :=
  (if rf < 0 then (-1) else (if 8 ≤ rf then (-1) else (nd.1 rf.toNatClampNeg)))
def nd_writeMissing_L14  : Nat → Nat → Int64 → NS → (Bool × NS)
  | 0, i, mis, nd => (true, nd)
  | k + 1, i, mis, nd => (yb (px_isIn mis (nI i)) fun r1 => (if r1 = true then (yb (nd_write nd) fun r3 => (if r3.1 = true then (yb (nd_keep (nI i) r3.2) fun r5 => (nd_writeMissing_L14 k (i + 1) mis r5)) else (false, r3.2))) else (nd_writeMissing_L14 k (i + 1) mis nd)))
def nd_writeMissing (objs : Int64) (nd : NS) : Bool × NS :=
  (nd_writeMissing_L14 60 0 (objs &&& (nd.2.2.2.2.1 ^^^ (-1))) nd)
def nd_hasValues_L2 (set : Int32) (nd : NS) : Nat → Nat → Bool
  | 0, i => true
  | k + 1, i => (yb (px_isChosen set (nI i)) fun r1 => (if r1 = true then (if (nd.1 i) = (-1) then false else (nd_hasValues_L2 set nd k (i + 1))) else (nd_hasValues_L2 set nd k (i + 1))))
def nd_hasValues (set : Int32) (nd : NS) : Bool :=
  (nd_hasValues_L2 set nd 8 0)
def nd_commitsOf_L5 (set : Int32) (nd : NS) : Nat → Nat → Int64 → Int64
  | 0, i, acc => acc
  | k + 1, i, acc => (yb (px_isChosen set (nI i)) fun r1 => (if r1 = true then (if (nd.1 i) = (-1) then (nd_commitsOf_L5 set nd k (i + 1) acc) else (nd_commitsOf_L5 set nd k (i + 1) (acc ||| (ylshl 1 (nd.1 i))))) else (nd_commitsOf_L5 set nd k (i + 1) acc)))
def nd_commitsOf (set : Int32) (nd : NS) : Int64 :=
  (nd_commitsOf_L5 set nd 8 0 0)
def nd_emptyLog_L11  : Nat → Nat → NS → (Bool × NS)
  | 0, i, nd => (true, (nd.1, nd.2.1, 0, false, nd.2.2.2.2.1, nd.2.2.2.2.2.1, nd.2.2.2.2.2.2))
  | k + 1, i, nd => (nd_emptyLog_L11 k (i + 1) (nd.1, upd nd.2.1 i (-2), nd.2.2.1, nd.2.2.2.1, nd.2.2.2.2.1, nd.2.2.2.2.2.1, nd.2.2.2.2.2.2))
def nd_emptyLog (nd : NS) : Bool × NS :=
  (yb (nd_write nd) fun r1 => (if r1.1 = true then (nd_emptyLog_L11 8 0 r1.2) else (false, r1.2)))
def nd_carryOutLog_L2  : Nat → Nat → NS → (Bool × NS)
  | 0, i, nd => (yb (nd_emptyLog nd) fun r1 => (r1.1, r1.2))
  | k + 1, i, nd => (if (nd.2.1 i) = (-2) then (nd_carryOutLog_L2 k (i + 1) nd) else (yb (nd_write nd) fun r3 => (if r3.1 = true then (nd_carryOutLog_L2 k (i + 1) (upd r3.2.1 i (r3.2.2.1 i), r3.2.2.1, r3.2.2.2.1, r3.2.2.2.2.1, r3.2.2.2.2.2.1, r3.2.2.2.2.2.2.1, r3.2.2.2.2.2.2.2)) else (false, r3.2))))
def nd_carryOutLog (nd : NS) : Bool × NS :=
  (nd_carryOutLog_L2 8 0 nd)
def nd_transact_L2 (tg : (Nat → Int32)) : Nat → Nat → NS → (Bool × NS)
  | 0, i, nd => (if nd.2.2.1 = 0 then (true, nd) else (yb (nd_write nd) fun r2 => (if r2.1 = true then (yb (nd_carryOutLog (r2.2.1, r2.2.2.1, r2.2.2.2.1, true, r2.2.2.2.2.2.1, r2.2.2.2.2.2.2.1, r2.2.2.2.2.2.2.2)) fun r4 => (r4.1, r4.2)) else (false, r2.2))))
  | k + 1, i, nd => (if (tg i) = (-2) then (nd_transact_L2 tg k (i + 1) nd) else (if (tg i) = (nd.1 i) then (nd_transact_L2 tg k (i + 1) nd) else (yb (nd_write nd) fun r8 => (if r8.1 = true then (nd_transact_L2 tg k (i + 1) (r8.2.1, upd r8.2.2.1 i (tg i), (r8.2.2.2.1 + 1), r8.2.2.2.2.1, r8.2.2.2.2.2.1, r8.2.2.2.2.2.2.1, r8.2.2.2.2.2.2.2)) else (false, r8.2)))))
def nd_transact (nd : NS) (tg : (Nat → Int32)) : Bool × NS :=
  (nd_transact_L2 tg 8 0 nd)
def nd_restore (nd : NS) : Int32 × NS :=
  (if nd.2.2.2.1 = true then (yb (nd_carryOutLog nd) fun r10 => (if r10.1 = true then (nd.2.2.1, (r10.2.1, r10.2.2.1, r10.2.2.2.1, r10.2.2.2.2.1, r10.2.2.2.2.2.1, true, r10.2.2.2.2.2.2.2)) else ((-2), r10.2))) else (if nd.2.2.1 = 0 then (0, (nd.1, nd.2.1, nd.2.2.1, nd.2.2.2.1, nd.2.2.2.2.1, true, nd.2.2.2.2.2.2)) else (yb (nd_emptyLog nd) fun r5 => (if r5.1 = true then (0, (r5.2.1, r5.2.2.1, r5.2.2.2.1, r5.2.2.2.2.1, r5.2.2.2.2.2.1, true, r5.2.2.2.2.2.2.2)) else ((-2), r5.2)))))
def st_isFull (so : SS) : Bool :=
  (if (nI so.2.2.2.2.2) < 60 then false else true)
def st_isNumber (num : Int32) (so : SS) : Bool :=
  (if num < 0 then false else (if (nI so.2.2.2.2.2) ≤ num then false else true))
def st_isOfKind (num : Int32) (kd : Int32) (so : SS) : Bool :=
  (yb (st_isNumber num so) fun r1 => (if r1 = true then (if (so.1 num.toNatClampNeg) = kd then true else false) else false))
def st_reachOf (num : Int32) (so : SS) : Int64 :=
  (yb (st_isNumber num so) fun r1 => (if r1 = true then so.2.2.2.2.1 num.toNatClampNeg else 0))
def st_contentOf (num : Int32) (so : SS) : Int32 :=
  (yb (st_isNumber num so) fun r1 => (if r1 = true then (so.2.1 num.toNatClampNeg) else 0))
def st_partsOf (num : Int32) (so : SS) : Int32 :=
  (yb (st_isNumber num so) fun r1 => (if r1 = true then (if (so.1 num.toNatClampNeg) = 0 then 0 else (if (so.2.2.1 num.toNatClampNeg) = (-1) then (if (so.2.2.2.1 num.toNatClampNeg) = (-1) then ((1 + 0) + 0) else ((1 + 0) + 1)) else (if (so.2.2.2.1 num.toNatClampNeg) = (-1) then ((1 + 1) + 0) else ((1 + 1) + 1)))) else 0))
def st_find_L3 (kd : Int32) (f1 : Int32) (f2 : Int32) (f3 : Int32) (so : SS) : Nat → Nat → Int32
  | 0, i => (-1)
  | k + 1, i => (if (so.1 i) = kd then (if (so.2.1 i) = f1 then (if (so.2.2.1 i) = f2 then (if (so.2.2.2.1 i) = f3 then (nI i) else (st_find_L3 kd f1 f2 f3 so k (i + 1))) else (st_find_L3 kd f1 f2 f3 so k (i + 1))) else (st_find_L3 kd f1 f2 f3 so k (i + 1))) else (st_find_L3 kd f1 f2 f3 so k (i + 1)))
def st_find (kd : Int32) (f1 : Int32) (f2 : Int32) (f3 : Int32) (so : SS) : Int32 :=
  (st_find_L3 kd f1 f2 f3 so so.2.2.2.2.2 0)
def st_add (kd : Int32) (f1 : Int32) (f2 : Int32) (f3 : Int32) (so : SS) : Int32 × SS :=
  (yb (st_isFull so) fun r1 => (if r1 = true then ((-1), so) else (if kd = 0 then ((nI so.2.2.2.2.2), (upd so.1 so.2.2.2.2.2 kd, upd so.2.1 so.2.2.2.2.2 f1, upd so.2.2.1 so.2.2.2.2.2 f2, upd so.2.2.2.1 so.2.2.2.2.2 f3, vp_updL so.2.2.2.2.1 so.2.2.2.2.2 (ylshl 1 (nI so.2.2.2.2.2)), so.2.2.2.2.2 + 1)) else (yb (st_reachOf f1 so) fun r4 => (yb (st_reachOf f2 so) fun r5 => (yb (st_reachOf f3 so) fun r6 => ((nI so.2.2.2.2.2), (upd so.1 so.2.2.2.2.2 kd, upd so.2.1 so.2.2.2.2.2 f1, upd so.2.2.1 so.2.2.2.2.2 f2, upd so.2.2.2.1 so.2.2.2.2.2 f3, vp_updL so.2.2.2.2.1 so.2.2.2.2.2 ((((ylshl 1 (nI so.2.2.2.2.2)) ||| r4) ||| r5) ||| r6), so.2.2.2.2.2 + 1))))))))
def st_reachOfAll_L5 (objs : Int64) (so : SS) : Nat → Nat → Int64 → Int64
  | 0, i, acc => acc
  | k + 1, i, acc => (yb (px_isIn objs (nI i)) fun r1 => (if r1 = true then (st_reachOfAll_L5 objs so k (i + 1) (acc ||| (so.2.2.2.2.1 i))) else (st_reachOfAll_L5 objs so k (i + 1) acc)))
def st_reachOfAll (objs : Int64) (so : SS) : Int64 :=
  (st_reachOfAll_L5 objs so so.2.2.2.2.2 0 0)
def st_eachReachesOne_L3 (objs : Int64) (goals : Int64) (so : SS) : Nat → Nat → Bool
  | 0, i => true
  | k + 1, i => (yb (px_isIn objs (nI i)) fun r1 => (if r1 = true then (if ((so.2.2.2.2.1 i) &&& goals) = 0 then false else (st_eachReachesOne_L3 objs goals so k (i + 1))) else (st_eachReachesOne_L3 objs goals so k (i + 1))))
def st_eachReachesOne (objs : Int64) (goals : Int64) (so : SS) : Bool :=
  (st_eachReachesOne_L3 objs goals so so.2.2.2.2.2 0)
def st_allOfKind_L5 (kd : Int32) (so : SS) : Nat → Nat → Int64 → Int64
  | 0, i, acc => acc
  | k + 1, i, acc => (if (so.1 i) = kd then (st_allOfKind_L5 kd so k (i + 1) (acc ||| (ylshl 1 (nI i)))) else (st_allOfKind_L5 kd so k (i + 1) acc))
def st_allOfKind (kd : Int32) (so : SS) : Int64 :=
  (st_allOfKind_L5 kd so so.2.2.2.2.2 0 0)
def tk_highest_L9 (objs : Int64) : Nat → Int64 → Int32 → Int64
  | 0, ch, fo => ch
  | x + 1, ch, fo => (if 3 ≤ fo then ch else (yb (px_isIn objs (nI x)) fun r2 => (if r2 = true then (tk_highest_L9 objs x (ch ||| (ylshl 1 (nI x))) (fo + 1)) else (tk_highest_L9 objs x ch fo))))
def tk_highest (objs : Int64) : Int64 :=
  (tk_highest_L9 objs 60 0 0)
def tk_havesSent (tk : TS) : Int32 :=
  tk.1
def tk_havesAcknowledged (tk : TS) : Int32 :=
  tk.2.1
def tk_roundsHeld (tk : TS) : Int32 :=
  tk.2.2
def tk_run_L17 (wants : Int64) (hbs : Int64) (so : SS) : Nat → Nat → Int64 → Int64 → Int32 → Int32 → (Int64 × TS)
  | 0, i, known, left, sent, ackd => (yb (jl_bitCount known) fun r1 => (known, (sent, r1, (nI i))))
  | k + 1, i, known, left, sent, ackd => (if left = 0 then (yb (jl_bitCount known) fun r3 => (known, (sent, r3, (nI i)))) else (yb (st_eachReachesOne wants known so) fun r4 => (if r4 = true then (yb (jl_bitCount known) fun r6 => (known, (sent, r6, (nI i)))) else (yb (tk_highest left) fun r7 => (yb (jl_bitCount r7) fun r8 => (yb (st_reachOfAll (known ||| (r7 &&& hbs)) so) fun r9 => (tk_run_L17 wants hbs so k (i + 1) (known ||| (r7 &&& hbs)) (left &&& ((r7 ||| r9) ^^^ (-1))) (sent + r8) ackd)))))))
def tk_run (wants : Int64) (cands : Int64) (hbs : Int64) (tk : TS) (so : SS) : Int64 × TS :=
  (tk_run_L17 wants hbs so 60 0 0 cands 0 tk.2.1)
def pk_memberSet (pk : PS) : Int64 :=
  pk.2.2.2.1
def pk_length (pk : PS) : Nat :=
  pk.2.2.2.2.1
def pk_totalWeight (pk : PS) : Int32 :=
  pk.2.2.2.2.2
def pk_isPlace (pl : Int32) (pk : PS) : Bool :=
  (if pl < 0 then false else (if (nI pk.2.2.2.2.1) ≤ pl then false else true))
def pk_objectAt (pl : Int32) (pk : PS) : Int32 :=
  (yb (pk_isPlace pl pk) fun r1 => (if r1 = true then (pk.1 pl.toNatClampNeg) else (-4)))
def pk_baseAt (pl : Int32) (pk : PS) : Int32 :=
  (yb (pk_isPlace pl pk) fun r1 => (if r1 = true then (pk.2.1 pl.toNatClampNeg) else (-4)))
def pk_differingDigits_L9  : Nat → Nat → Int32 → Int32 → Int32
  | 0, i, df, dg => dg
  | k + 1, i, df, dg => (if ((yiushr df (nI (4 * i))) &&& 15) = 0 then (pk_differingDigits_L9 k (i + 1) df dg) else (pk_differingDigits_L9 k (i + 1) df (dg + 1)))
def pk_differingDigits (d1 : Int32) (d2 : Int32) : Int32 :=
  (pk_differingDigits_L9 8 0 (d1 ^^^ d2) 0)
def pk_chooseBase_L20 (pl : Nat) (so : SS) : Nat → Int32 → Int32 → PS → (Int32 × PS)
  | 0, least, content, pk => (least, pk)
  | q + 1, least, content, pk => (if (nI q) < ((nI pl) - 3) then (least, pk) else (yb (st_isOfKind (pk.1 q) 0 so) fun r2 => (if r2 = true then (if 2 ≤ (pk.2.2.1 q) then (pk_chooseBase_L20 pl so q least content pk) else (yb (st_contentOf (pk.1 q) so) fun r5 => (yb (pk_differingDigits content r5) fun r6 => (if least ≤ (2 + r6) then (pk_chooseBase_L20 pl so q least content pk) else (pk_chooseBase_L20 pl so q (2 + r6) content (pk.1, upd pk.2.1 pl (nI q), upd pk.2.2.1 pl ((pk.2.2.1 q) + 1), pk.2.2.2.1, pk.2.2.2.2.1, pk.2.2.2.2.2)))))) else (pk_chooseBase_L20 pl so q least content pk))))
def pk_chooseBase (pl : Nat) (pk : PS) (so : SS) : Int32 × PS :=
  (yb (st_contentOf (pk.1 pl) so) fun r8 => (pk_chooseBase_L20 pl so pl 8 r8 pk))
def pk_placeKind_L3 (kd : Int32) (so : SS) : Nat → PS → PS
  | 0, pk => pk
  | x + 1, pk => (if 60 ≤ (nI pk.2.2.2.2.1) then pk else (yb (px_isIn pk.2.2.2.1 (nI x)) fun r2 => (if r2 = true then (yb (st_isOfKind (nI x) kd so) fun r4 => (if r4 = true then (if kd = 0 then (yb (pk_chooseBase pk.2.2.2.2.1 (upd pk.1 pk.2.2.2.2.1 (nI x), upd pk.2.1 pk.2.2.2.2.1 (-4), upd pk.2.2.1 pk.2.2.2.2.1 0, pk.2.2.2.1, pk.2.2.2.2.1, pk.2.2.2.2.2) so) fun r8 => (pk_placeKind_L3 kd so x (r8.2.1, r8.2.2.1, r8.2.2.2.1, r8.2.2.2.2.1, pk.2.2.2.2.1 + 1, (pk.2.2.2.2.2 + r8.1)))) else (yb (st_partsOf (nI x) so) fun r7 => (pk_placeKind_L3 kd so x (upd pk.1 pk.2.2.2.2.1 (nI x), upd pk.2.1 pk.2.2.2.2.1 (-4), upd pk.2.2.1 pk.2.2.2.2.1 0, pk.2.2.2.1, pk.2.2.2.2.1 + 1, (pk.2.2.2.2.2 + (1 + r7)))))) else (pk_placeKind_L3 kd so x pk))) else (pk_placeKind_L3 kd so x pk))))
def pk_placeKind (kd : Int32) (pk : PS) (so : SS) : PS :=
  (pk_placeKind_L3 kd so 60 pk)
def pk_fill (newm : Int64) (pk : PS) (so : SS) : PS :=
  (yb (pk_placeKind 2 (pk.1, pk.2.1, pk.2.2.1, newm, 0, 0) so) fun r1 => (yb (pk_placeKind 1 r1 so) fun r2 => (yb (pk_placeKind 0 r2 so) fun r3 => r3)))
def px_holdsKind (num : Int32) (kd : Int32) (so : SS) (nd : NS) : Bool :=
  (yb (nd_heldSet nd) fun r1 => (yb (px_isIn r1 num) fun r2 => (if r2 = true then (yb (st_isOfKind num kd so) fun r4 => (if r4 = true then true else false)) else false)))
def px_isEntry (num : Int32) (so : SS) (nd : NS) : Bool :=
  (yb (px_holdsKind num 0 so nd) fun r1 => (if r1 = true then true else (yb (px_holdsKind num 1 so nd) fun r3 => (if r3 = true then true else false))))
def px_isCommitOrAbsent (num : Int32) (so : SS) (nd : NS) : Bool :=
  (if num = (-1) then true else (yb (px_holdsKind num 2 so nd) fun r2 => (if r2 = true then true else false)))
def px_writeObject (kd : Int32) (f1 : Int32) (f2 : Int32) (f3 : Int32) (so : SS) (nd : NS) : Int32 × SS × NS :=
  (yb (st_find kd f1 f2 f3 so) fun r1 => (if r1 = (-1) then (yb (st_isFull so) fun r10 => (if r10 = true then ((-3), so, nd) else (yb (nd_heldSet nd) fun r12 => (yb (px_isIn r12 r1) fun r13 => (if r13 = true then (r1, so, nd) else (yb (nd_write nd) fun r15 => (if r15.1 = true then (yb (st_add kd f1 f2 f3 so) fun r18 => (yb (nd_keep r18.1 r15.2) fun r19 => (r18.1, r18.2, r19))) else ((-2), so, r15.2)))))))) else (yb (nd_heldSet nd) fun r3 => (yb (px_isIn r3 r1) fun r4 => (if r4 = true then (r1, so, nd) else (yb (nd_write nd) fun r6 => (if r6.1 = true then (yb (nd_keep r1 r6.2) fun r9 => (r1, so, r9)) else ((-2), so, r6.2))))))))
def px_clearTargets_L2  : Nat → Nat → (Nat → Int32) → (Nat → Int32)
  | 0, i, tg => tg
  | k + 1, i, tg => (px_clearTargets_L2 k (i + 1) (upd tg i (-2)))
def px_clearTargets (tg : (Nat → Int32)) : (Nat → Int32) :=
  (px_clearTargets_L2 8 0 tg)
def px_aimAtOne (rn : Nat) (vl : Int32) (tg : (Nat → Int32)) : (Nat → Int32) :=
  (yb (px_clearTargets tg) fun r1 => upd r1 rn vl)
def px_aimAtValues_L7 (set : Int32) (sh : Nat) (nd : NS) : Nat → Nat → (Nat → Int32) → (Nat → Int32)
  | 0, i, tg => tg
  | k + 1, i, tg => (yb (px_isChosen set (nI i)) fun r1 => (if r1 = true then (yb (nd_valueOf (nI i) nd) fun r3 => (if r3 = (-1) then (px_aimAtValues_L7 set sh nd k (i + 1) tg) else (yb (nd_valueOf (nI i) nd) fun r5 => (px_aimAtValues_L7 set sh nd k (i + 1) (upd tg (i + sh) r5))))) else (px_aimAtValues_L7 set sh nd k (i + 1) tg)))
def px_aimAtValues (set : Int32) (sh : Nat) (tg : (Nat → Int32)) (nd : NS) : (Nat → Int32) :=
  (yb (px_clearTargets tg) fun r6 => (px_aimAtValues_L7 set sh nd 4 0 r6))
def px_verdictOn (rn : Nat) (so : SS) (nd : NS) (ne : NS) : Int32 :=
  (yb (nd_valueOf (nI (4 + rn)) nd) fun r1 => (yb (nd_valueOf (nI rn) ne) fun r2 => (if r2 = r1 then (if r1 = (-1) then 1 else (yb (nd_valueOf (nI rn) nd) fun r5 => (yb (st_reachOf r5 so) fun r6 => (yb (px_isIn r6 r1) fun r7 => (if r7 = true then 1 else 3))))) else 2)))
def px_judge_L6 (set : Int32) (so : SS) (nd : NS) (ne : NS) : Nat → Nat → Bool → (Nat → Int32) → (Bool × (Nat → Int32))
  | 0, i, good, vd => (good, vd)
  | k + 1, i, good, vd => (yb (px_isChosen set (nI i)) fun r1 => (if r1 = true then (yb (px_verdictOn i so nd ne) fun r6 => (if good = true then (if ((upd vd i r6) i) = 0 then (px_judge_L6 set so nd ne k (i + 1) true (upd vd i r6)) else (if ((upd vd i r6) i) = 1 then (px_judge_L6 set so nd ne k (i + 1) true (upd vd i r6)) else (px_judge_L6 set so nd ne k (i + 1) false (upd vd i r6)))) else (px_judge_L6 set so nd ne k (i + 1) false (upd vd i r6)))) else (if good = true then (if ((upd vd i 0) i) = 0 then (px_judge_L6 set so nd ne k (i + 1) true (upd vd i 0)) else (if ((upd vd i 0) i) = 1 then (px_judge_L6 set so nd ne k (i + 1) true (upd vd i 0)) else (px_judge_L6 set so nd ne k (i + 1) false (upd vd i 0)))) else (px_judge_L6 set so nd ne k (i + 1) false (upd vd i 0)))))
def px_judge (set : Int32) (so : SS) (vd : (Nat → Int32)) (nd : NS) (ne : NS) : Bool × (Nat → Int32) :=
  (px_judge_L6 set so nd ne 4 0 true vd)
def px_carryOutPush (set : Int32) (pk : PS) (tg : (Nat → Int32)) (nd : NS) (ne : NS) : Bool × (Nat → Int32) × NS × NS :=
  (yb (pk_memberSet pk) fun r1 => (yb (nd_writeMissing r1 ne) fun r2 => (if r2.1 = true then (yb (px_aimAtValues set 0 tg nd) fun r4 => (yb (nd_transact r2.2 r4) fun r5 => (if r5.1 = true then (yb (px_aimAtValues set 4 r4 nd) fun r7 => (yb (nd_transact nd r7) fun r8 => (r8.1, r7, r8.2, r5.2))) else (false, r4, nd, r5.2)))) else (false, tg, nd, r2.2))))
def x_blob (node : Int32) (content : Int32) (so : SS) (ns : (Nat → NS)) : Int32 × SS × (Nat → NS) :=
  (yb (px_isNode node) fun r1 => (if r1 = true then (yn node fun nk => (yb (nd_isUp (ns nk)) fun r3 => (if r3 = true then (yb (px_writeObject 0 content (-1) (-1) so (ns nk)) fun r5 => (r5.1, r5.2.1, (yupF ns nk r5.2.2))) else ((-2), so, ns)))) else ((-1), so, ns)))
def x_tree (node : Int32) (f1 : Int32) (f2 : Int32) (so : SS) (ns : (Nat → NS)) : Int32 × SS × (Nat → NS) :=
  (yb (px_isNode node) fun r1 => (if r1 = true then (yn node fun nk => (yb (nd_isUp (ns nk)) fun r3 => (if r3 = true then (yb (px_isEntry f1 so (ns nk)) fun r5 => (if r5 = true then (if f2 = (-1) then (yb (px_writeObject 1 f1 f2 (-1) so (ns nk)) fun r8 => (r8.1, r8.2.1, (yupF ns nk r8.2.2))) else (yb (px_isEntry f2 so (ns nk)) fun r9 => (if r9 = true then (yb (px_writeObject 1 f1 f2 (-1) so (ns nk)) fun r11 => (r11.1, r11.2.1, (yupF ns nk r11.2.2))) else ((-1), so, ns)))) else ((-1), so, ns))) else ((-2), so, ns)))) else ((-1), so, ns)))
def x_commit (node : Int32) (rf : Int32) (tree : Int32) (other : Int32) (so : SS) (tg : (Nat → Int32)) (ns : (Nat → NS)) : Int32 × SS × (Nat → Int32) × (Nat → NS) :=
  (yb (px_isNode node) fun r1 => (if r1 = true then (yb (px_isOwnReference rf) fun r3 => (if r3 = true then (yn node fun nk => (yn rf fun rn => (yb (nd_isUp (ns nk)) fun r5 => (if r5 = true then (yb (nd_valueOf (nI rn) (ns nk)) fun r7 => (yb (px_holdsKind tree 1 so (ns nk)) fun r8 => (if r8 = true then (yb (px_isCommitOrAbsent other so (ns nk)) fun r10 => (if r10 = true then (if other = (-1) then (if r7 = (-1) then (yb (px_writeObject 2 tree other (-1) so (ns nk)) fun r19 => (if 0 ≤ r19.1 then (yb (px_aimAtOne rn r19.1 tg) fun r21 => (yb (nd_transact r19.2.2 r21) fun r22 => (if r22.1 = true then (r19.1, r19.2.1, r21, (yupF ns nk r22.2)) else ((-2), r19.2.1, r21, (yupF ns nk r22.2))))) else (r19.1, r19.2.1, tg, (yupF ns nk r19.2.2)))) else (yb (px_writeObject 2 tree r7 other so (ns nk)) fun r14 => (if 0 ≤ r14.1 then (yb (px_aimAtOne rn r14.1 tg) fun r16 => (yb (nd_transact r14.2.2 r16) fun r17 => (if r17.1 = true then (r14.1, r14.2.1, r16, (yupF ns nk r17.2)) else ((-2), r14.2.1, r16, (yupF ns nk r17.2))))) else (r14.1, r14.2.1, tg, (yupF ns nk r14.2.2))))) else (if other = r7 then ((-1), so, tg, ns) else (if r7 = (-1) then (yb (px_writeObject 2 tree other (-1) so (ns nk)) fun r31 => (if 0 ≤ r31.1 then (yb (px_aimAtOne rn r31.1 tg) fun r33 => (yb (nd_transact r31.2.2 r33) fun r34 => (if r34.1 = true then (r31.1, r31.2.1, r33, (yupF ns nk r34.2)) else ((-2), r31.2.1, r33, (yupF ns nk r34.2))))) else (r31.1, r31.2.1, tg, (yupF ns nk r31.2.2)))) else (yb (px_writeObject 2 tree r7 other so (ns nk)) fun r26 => (if 0 ≤ r26.1 then (yb (px_aimAtOne rn r26.1 tg) fun r28 => (yb (nd_transact r26.2.2 r28) fun r29 => (if r29.1 = true then (r26.1, r26.2.1, r28, (yupF ns nk r29.2)) else ((-2), r26.2.1, r28, (yupF ns nk r29.2))))) else (r26.1, r26.2.1, tg, (yupF ns nk r26.2.2))))))) else ((-1), so, tg, ns))) else ((-1), so, tg, ns)))) else ((-2), so, tg, ns))))) else ((-1), so, tg, ns))) else ((-1), so, tg, ns)))
def x_point (node : Int32) (rf : Int32) (cm : Int32) (so : SS) (tg : (Nat → Int32)) (ns : (Nat → NS)) : Int32 × (Nat → Int32) × (Nat → NS) :=
  (yb (px_isNode node) fun r1 => (if r1 = true then (yb (px_isOwnReference rf) fun r3 => (if r3 = true then (yn node fun nk => (yn rf fun rn => (yb (nd_isUp (ns nk)) fun r5 => (if r5 = true then (yb (px_isCommitOrAbsent cm so (ns nk)) fun r7 => (if r7 = true then (yb (nd_valueOf (nI rn) (ns nk)) fun r9 => (if r9 = cm then (0, tg, ns) else (yb (px_aimAtOne rn cm tg) fun r11 => (yb (nd_transact (ns nk) r11) fun r12 => (if r12.1 = true then (1, r11, (yupF ns nk r12.2)) else ((-2), r11, (yupF ns nk r12.2))))))) else ((-1), tg, ns))) else ((-2), tg, ns))))) else ((-1), tg, ns))) else ((-1), tg, ns)))
def x_fetch (node : Int32) (set : Int32) (so : SS) (tk : TS) (pk : PS) (tg : (Nat → Int32)) (ns : (Nat → NS)) : Int32 × TS × PS × (Nat → Int32) × (Nat → NS) :=
  (yb (px_isClient node) fun r1 => (if r1 = true then (yb (px_isSet set) fun r3 => (if r3 = true then (yn node fun nk => (yb (nd_isUp (ns nk)) fun r5 => (if r5 = true then (yb (nd_isUp (ns 0)) fun r7 => (if r7 = true then (yb (nd_commitsOf set (ns 0)) fun r9 => (yb (nd_heldSet (ns nk)) fun r10 => (yb (nd_commitsOf 255 (ns nk)) fun r11 => (yb (st_reachOfAll r11 so) fun r12 => (yb (st_allOfKind 2 so) fun r13 => (yb (nd_heldSet (ns 0)) fun r14 => (yb (tk_run (r9 &&& (r10 ^^^ (-1))) (r12 &&& r13) r14 tk so) fun r15 => (yb (st_reachOfAll (r9 &&& (r10 ^^^ (-1))) so) fun r16 => (yb (st_reachOfAll r15.1 so) fun r17 => (yb (pk_fill (r16 &&& (r17 ^^^ (-1))) pk so) fun r18 => (yb (pk_memberSet r18) fun r19 => (yb (nd_writeMissing r19 (ns nk)) fun r20 => (if r20.1 = true then (yb (px_aimAtValues set 4 tg (ns 0)) fun r22 => (yb (nd_transact r20.2 r22) fun r23 => (if r23.1 = true then (yb (pk_length r18) fun r25 => ((nI r25), r15.2, r18, r22, (yupF ns nk r23.2))) else ((-2), r15.2, r18, r22, (yupF ns nk r23.2))))) else ((-2), r15.2, r18, tg, (yupF ns nk r20.2))))))))))))))) else ((-2), tk, pk, tg, ns))) else ((-2), tk, pk, tg, ns)))) else ((-1), tk, pk, tg, ns))) else ((-1), tk, pk, tg, ns)))
def x_push (node : Int32) (set : Int32) (so : SS) (pk : PS) (vd : (Nat → Int32)) (tg : (Nat → Int32)) (ns : (Nat → NS)) : Int32 × PS × (Nat → Int32) × (Nat → Int32) × (Nat → NS) :=
  (yb (px_isClient node) fun r1 => (if r1 = true then (yb (px_isSet set) fun r3 => (if r3 = true then (yn node fun nk => (yb (nd_isUp (ns nk)) fun r5 => (if r5 = true then (yb (nd_isUp (ns 0)) fun r7 => (if r7 = true then (yb (nd_hasValues set (ns nk)) fun r9 => (if r9 = true then (yb (px_judge set so vd (ns nk) (ns 0)) fun r11 => (if r11.1 = true then (yb (nd_commitsOf 15 (ns 0)) fun r13 => (yb (nd_heldSet (ns nk)) fun r14 => (yb (nd_commitsOf set (ns nk)) fun r15 => (yb (st_reachOfAll r15 so) fun r16 => (yb (st_reachOfAll (r13 &&& r14) so) fun r17 => (yb (pk_fill (r16 &&& (r17 ^^^ (-1))) pk so) fun r18 => (yb (px_carryOutPush set r18 tg (ns nk) (ns 0)) fun r19 => (if r19.1 = true then (1, r18, r11.2, r19.2.1, (yupF (yupF ns 0 r19.2.2.2) nk r19.2.2.1)) else ((-2), r18, r11.2, r19.2.1, (yupF (yupF ns 0 r19.2.2.2) nk r19.2.2.1)))))))))) else (yb (pk_fill 0 pk so) fun r21 => (0, r21, r11.2, tg, ns)))) else ((-1), pk, vd, tg, ns))) else ((-2), pk, vd, tg, ns))) else ((-2), pk, vd, tg, ns)))) else ((-1), pk, vd, tg, ns))) else ((-1), pk, vd, tg, ns)))
def x_arm (node : Int32) (n : Int32) (ns : (Nat → NS)) : Bool × (Nat → NS) :=
  (yb (px_isNode node) fun r1 => (if r1 = true then (if n < (-1) then (false, ns) else (if n ≤ 100 then (yn node fun nk => (yb (nd_armWith n (ns nk)) fun r5 => (true, (yupF ns nk r5)))) else (false, ns))) else (false, ns)))
def x_recover (node : Int32) (ns : (Nat → NS)) : Int32 × (Nat → NS) :=
  (yb (px_isNode node) fun r1 => (if r1 = true then (yn node fun nk => (yb (nd_isUp (ns nk)) fun r3 => (if r3 = true then ((-1), ns) else (yb (nd_restore (ns nk)) fun r5 => (r5.1, (yupF ns nk r5.2)))))) else ((-1), ns)))
def x_collect (node : Int32) (so : SS) (ns : (Nat → NS)) : Int32 × (Nat → NS) :=
  (yb (px_isNode node) fun r1 => (if r1 = true then (yn node fun nk => (yb (nd_isUp (ns nk)) fun r3 => (if r3 = true then (yb (nd_commitsOf 255 (ns nk)) fun r5 => (yb (st_reachOfAll r5 so) fun r6 => (yb (nd_keepOnly r6 (ns nk)) fun r7 => (r7.1, (yupF ns nk r7.2))))) else ((-2), ns)))) else ((-1), ns)))
def x_up (node : Int32) (ns : (Nat → NS)) : Bool :=
  (yb (px_isNode node) fun r1 => (if r1 = true then (yn node fun nk => (yb (nd_isUp (ns nk)) fun r3 => (if r3 = true then true else false))) else false))
def x_reference (node : Int32) (rf : Int32) (ns : (Nat → NS)) : Int32 :=
  (yb (px_isNode node) fun r1 => (if r1 = true then (if rf < 0 then (-1) else (if rf < 8 then (yn node fun nk => (yb (nd_isUp (ns nk)) fun r5 => (if r5 = true then (yb (nd_valueOf rf (ns nk)) fun r7 => (if r7 = (-1) then (-4) else r7)) else (-2)))) else (-1))) else (-1)))
def x_holds (node : Int32) (num : Int32) (ns : (Nat → NS)) : Int32 :=
  (yb (px_isNode node) fun r1 => (if r1 = true then (yn node fun nk => (yb (nd_isUp (ns nk)) fun r3 => (if r3 = true then (yb (nd_heldSet (ns nk)) fun r5 => (yb (px_isIn r5 num) fun r6 => (if r6 = true then 1 else 0))) else (-2)))) else (-1)))
def x_count (node : Int32) (ns : (Nat → NS)) : Int32 :=
  (yb (px_isNode node) fun r1 => (if r1 = true then (yn node fun nk => (yb (nd_isUp (ns nk)) fun r3 => (if r3 = true then (yb (nd_heldSet (ns nk)) fun r5 => (yb (jl_bitCount r5) fun r6 => r6)) else (-2)))) else (-1)))
def x_talk (w : Int32) (tk : TS) : Int32 :=
  (if w = 0 then (yb (tk_havesSent tk) fun r2 => r2) else (if w = 1 then (yb (tk_havesAcknowledged tk) fun r4 => r4) else (if w = 2 then (yb (tk_roundsHeld tk) fun r6 => r6) else (-1))))
def x_packed (pk : PS) : Nat :=
  (yb (pk_length pk) fun r1 => r1)
def x_packAt (pl : Int32) (pk : PS) : Int32 :=
  (yb (pk_objectAt pl pk) fun r1 => r1)
def x_base (pl : Int32) (pk : PS) : Int32 :=
  (yb (pk_baseAt pl pk) fun r1 => r1)
def x_weight (pk : PS) : Int32 :=
  (yb (pk_totalWeight pk) fun r1 => r1)
def x_verdict (rf : Int32) (vd : (Nat → Int32)) : Int32 :=
  (yb (px_isOwnReference rf) fun r1 => (if r1 = true then (vd rf.toNatClampNeg) else 0))
def md_isNode (x : Int32) : Bool :=
  (if x < 0 then false else (if 2 < x then false else true))
def md_many_L4 (set : Int64) : Nat → Nat → Int32 → Int32
  | 0, i, n => n
  | k + 1, i, n => (md_many_L4 set k (i + 1) (n + (((ylshr set (nI i)) &&& 1).toInt32)))
def md_many (set : Int64) : Int32 :=
  (md_many_L4 set 60 0 0)
def md_has (nk : Nat) (x : Int32) (mo : MO) (mn : MN) : Bool :=
  (if x < 0 then false else (if (nI mo.1) ≤ x then false else (if ((ylshr (mn.1 nk) x) &&& 1) = 1 then true else false)))
def md_reach_L10 (mo : MO) : Nat → Int64 → Int64
  | 0, all => all
  | x + 1, all => (if ((ylshr all (nI x)) &&& 1) = 1 then (if (mo.2.1 x) ≤ 0 then (md_reach_L10 mo x all) else (if (mo.2.2.2.1 x) < 0 then (if (mo.2.2.2.2 x) < 0 then (md_reach_L10 mo x (all ||| (ylshl 1 (mo.2.2.1 x)))) else (md_reach_L10 mo x ((all ||| (ylshl 1 (mo.2.2.1 x))) ||| (ylshl 1 (mo.2.2.2.2 x))))) else (if (mo.2.2.2.2 x) < 0 then (md_reach_L10 mo x ((all ||| (ylshl 1 (mo.2.2.1 x))) ||| (ylshl 1 (mo.2.2.2.1 x)))) else (yb (((all ||| (ylshl 1 (mo.2.2.1 x))) ||| (ylshl 1 (mo.2.2.2.1 x))) ||| (ylshl 1 (mo.2.2.2.2 x))) fun v6 => (md_reach_L10 mo x v6))))) else (md_reach_L10 mo x all))
def md_reach (set : Int64) (mo : MO) : Int64 :=
  (md_reach_L10 mo mo.1 set)
def md_tips_L6 (nk : Nat) (mn : MN) : Nat → Nat → Int64 → Int64
  | 0, i, acc => acc
  | k + 1, i, acc => (if (mn.2.1 ((8 * nk) + i)) ≤ 0 then (md_tips_L6 nk mn k (i + 1) acc) else (md_tips_L6 nk mn k (i + 1) (acc ||| (ylshl 1 ((mn.2.1 ((8 * nk) + i)) - 1)))))
def md_tips (nk : Nat) (fr : Nat) (tt : Nat) (mn : MN) : Int64 :=
  (md_tips_L6 nk mn ((tt + 1) - fr) fr 0)
def md_write (nk : Nat) (mn : MN) : Bool × MN :=
  (if (mn.2.2.2.1 nk) = 1 then (false, (mn.1, mn.2.1, yupB mn.2.2.1 nk true, upd mn.2.2.2.1 nk 0, mn.2.2.2.2.1, mn.2.2.2.2.2.1, mn.2.2.2.2.2.2.1, mn.2.2.2.2.2.2.2)) else (if (mn.2.2.2.1 nk) ≤ 0 then (true, (mn.1, mn.2.1, mn.2.2.1, upd mn.2.2.2.1 nk 0, mn.2.2.2.2.1, mn.2.2.2.2.2.1, mn.2.2.2.2.2.2.1, mn.2.2.2.2.2.2.2)) else (true, (mn.1, mn.2.1, mn.2.2.1, upd mn.2.2.2.1 nk ((mn.2.2.2.1 nk) - 1), mn.2.2.2.2.1, mn.2.2.2.2.2.1, mn.2.2.2.2.2.2.1, mn.2.2.2.2.2.2.2))))
def md_store_L3 (nk : Nat) (set : Int64) (mo : MO) : Nat → Nat → MN → (Bool × MN)
  | 0, i, mn => (true, mn)
  | k + 1, i, mn => (if ((ylshr set (nI i)) &&& 1) = 1 then (yb (md_has nk (nI i) mo mn) fun r2 => (if r2 = true then (md_store_L3 nk set mo k (i + 1) mn) else (yb (md_write nk mn) fun r4 => (if r4.1 = true then (md_store_L3 nk set mo k (i + 1) (vp_updL r4.2.1 nk ((r4.2.1 nk) ||| (ylshl 1 (nI i))), r4.2.2.1, r4.2.2.2.1, r4.2.2.2.2.1, r4.2.2.2.2.2.1, r4.2.2.2.2.2.2.1, r4.2.2.2.2.2.2.2.1, r4.2.2.2.2.2.2.2.2)) else (false, r4.2))))) else (md_store_L3 nk set mo k (i + 1) mn))
def md_store (nk : Nat) (set : Int64) (mo : MO) (mn : MN) : Bool × MN :=
  (md_store_L3 nk set mo mo.1 0 mn)
def md_wish (r : Nat) (vl : Int32) (mw : MW) : MW :=
  (mw.1 + 1, yupN mw.2.1 mw.1 r, upd mw.2.2 mw.1 vl)
def md_wipe (nk : Nat) (mn : MN) : Bool × MN :=
  (yb (md_write nk mn) fun r1 => (if r1.1 = true then (true, (r1.2.1, r1.2.2.1, r1.2.2.2.1, r1.2.2.2.2.1, yupN r1.2.2.2.2.2.1 nk 0, yupB r1.2.2.2.2.2.2.1 nk false, r1.2.2.2.2.2.2.2.1, r1.2.2.2.2.2.2.2.2)) else (false, r1.2)))
def md_replay_L2 (nk : Nat) : Nat → Nat → MN → (Bool × MN)
  | 0, i, mn => (yb (md_wipe nk mn) fun r1 => (r1.1, r1.2))
  | k + 1, i, mn => (yb (md_write nk mn) fun r2 => (if r2.1 = true then (md_replay_L2 nk k (i + 1) (r2.2.1, upd r2.2.2.1 ((8 * nk) + (r2.2.2.2.2.2.2.2.1 ((4 * nk) + i) % 8)) (r2.2.2.2.2.2.2.2.2 ((4 * nk) + i)), r2.2.2.2.1, r2.2.2.2.2.1, r2.2.2.2.2.2.1, r2.2.2.2.2.2.2.1, r2.2.2.2.2.2.2.2.1, r2.2.2.2.2.2.2.2.2)) else (false, r2.2)))
def md_replay (nk : Nat) (mn : MN) : Bool × MN :=
  (md_replay_L2 nk (mn.2.2.2.2.1 nk % 5) 0 mn)
def md_transact_L4 (nk : Nat) (mw : MW) : Nat → Nat → Nat → MN → (Bool × MN)
  | 0, i, mm, mn => (if (nI mm) = 0 then (true, mn) else (yb (md_write nk mn) fun r2 => (if r2.1 = true then (yb (md_replay nk (r2.2.1, r2.2.2.1, r2.2.2.2.1, r2.2.2.2.2.1, r2.2.2.2.2.2.1, yupB r2.2.2.2.2.2.2.1 nk true, r2.2.2.2.2.2.2.2.1, r2.2.2.2.2.2.2.2.2)) fun r4 => (r4.1, r4.2)) else (false, r2.2))))
  | k + 1, i, mm, mn => (if (mn.2.1 ((8 * nk) + (mw.2.1 i % 8))) = (mw.2.2 i) then (md_transact_L4 nk mw k (i + 1) mm mn) else (yb (md_write nk mn) fun r6 => (if r6.1 = true then (md_transact_L4 nk mw k (i + 1) (mm + 1) (r6.2.1, r6.2.2.1, r6.2.2.2.1, r6.2.2.2.2.1, yupN r6.2.2.2.2.2.1 nk (mm + 1), r6.2.2.2.2.2.2.1, yupN r6.2.2.2.2.2.2.2.1 ((4 * nk) + mm) (mw.2.1 i % 8), upd r6.2.2.2.2.2.2.2.2 ((4 * nk) + mm) (mw.2.2 i))) else (false, r6.2))))
def md_transact (nk : Nat) (mn : MN) (mw : MW) : Bool × MN :=
  (md_transact_L4 nk mw mw.1 0 0 mn)
def md_make_L3 (nk : Nat) (what : Int32) (f1 : Int32) (f2 : Int32) (f3 : Int32) (mo : MO) (mn : MN) : Nat → Nat → (Int32 × MO × MN)
  | 0, i => (if (nI i) = 60 then ((-3), mo, mn) else (if (nI mo.1) ≤ (nI i) then (yb (md_write nk mn) fun r3 => (if r3.1 = true then (if (nI i) = (nI mo.1) then ((nI i), (mo.1 + 1, upd mo.2.1 i what, upd mo.2.2.1 i f1, upd mo.2.2.2.1 i f2, upd mo.2.2.2.2 i f3), (vp_updL r3.2.1 nk ((r3.2.1 nk) ||| (ylshl 1 (nI i))), r3.2.2.1, r3.2.2.2.1, r3.2.2.2.2.1, r3.2.2.2.2.2.1, r3.2.2.2.2.2.2.1, r3.2.2.2.2.2.2.2.1, r3.2.2.2.2.2.2.2.2)) else ((nI i), mo, (vp_updL r3.2.1 nk ((r3.2.1 nk) ||| (ylshl 1 (nI i))), r3.2.2.1, r3.2.2.2.1, r3.2.2.2.2.1, r3.2.2.2.2.2.1, r3.2.2.2.2.2.2.1, r3.2.2.2.2.2.2.2.1, r3.2.2.2.2.2.2.2.2))) else ((-2), mo, r3.2))) else (yb (md_has nk (nI i) mo mn) fun r6 => (if r6 = true then ((nI i), mo, mn) else (yb (md_write nk mn) fun r8 => (if r8.1 = true then (if (nI i) = (nI mo.1) then ((nI i), (mo.1 + 1, upd mo.2.1 i what, upd mo.2.2.1 i f1, upd mo.2.2.2.1 i f2, upd mo.2.2.2.2 i f3), (vp_updL r8.2.1 nk ((r8.2.1 nk) ||| (ylshl 1 (nI i))), r8.2.2.1, r8.2.2.2.1, r8.2.2.2.2.1, r8.2.2.2.2.2.1, r8.2.2.2.2.2.2.1, r8.2.2.2.2.2.2.2.1, r8.2.2.2.2.2.2.2.2)) else ((nI i), mo, (vp_updL r8.2.1 nk ((r8.2.1 nk) ||| (ylshl 1 (nI i))), r8.2.2.1, r8.2.2.2.1, r8.2.2.2.2.1, r8.2.2.2.2.2.1, r8.2.2.2.2.2.2.1, r8.2.2.2.2.2.2.2.1, r8.2.2.2.2.2.2.2.2))) else ((-2), mo, r8.2)))))))
  | k + 1, i => (if (mo.2.1 i) = what then (if (mo.2.2.1 i) = f1 then (if (mo.2.2.2.1 i) = f2 then (if (mo.2.2.2.2 i) = f3 then (if (nI i) = 60 then ((-3), mo, mn) else (if (nI mo.1) ≤ (nI i) then (yb (md_write nk mn) fun r17 => (if r17.1 = true then (if (nI i) = (nI mo.1) then ((nI i), (mo.1 + 1, upd mo.2.1 i what, upd mo.2.2.1 i f1, upd mo.2.2.2.1 i f2, upd mo.2.2.2.2 i f3), (vp_updL r17.2.1 nk ((r17.2.1 nk) ||| (ylshl 1 (nI i))), r17.2.2.1, r17.2.2.2.1, r17.2.2.2.2.1, r17.2.2.2.2.2.1, r17.2.2.2.2.2.2.1, r17.2.2.2.2.2.2.2.1, r17.2.2.2.2.2.2.2.2)) else ((nI i), mo, (vp_updL r17.2.1 nk ((r17.2.1 nk) ||| (ylshl 1 (nI i))), r17.2.2.1, r17.2.2.2.1, r17.2.2.2.2.1, r17.2.2.2.2.2.1, r17.2.2.2.2.2.2.1, r17.2.2.2.2.2.2.2.1, r17.2.2.2.2.2.2.2.2))) else ((-2), mo, r17.2))) else (yb (md_has nk (nI i) mo mn) fun r20 => (if r20 = true then ((nI i), mo, mn) else (yb (md_write nk mn) fun r22 => (if r22.1 = true then (if (nI i) = (nI mo.1) then ((nI i), (mo.1 + 1, upd mo.2.1 i what, upd mo.2.2.1 i f1, upd mo.2.2.2.1 i f2, upd mo.2.2.2.2 i f3), (vp_updL r22.2.1 nk ((r22.2.1 nk) ||| (ylshl 1 (nI i))), r22.2.2.1, r22.2.2.2.1, r22.2.2.2.2.1, r22.2.2.2.2.2.1, r22.2.2.2.2.2.2.1, r22.2.2.2.2.2.2.2.1, r22.2.2.2.2.2.2.2.2)) else ((nI i), mo, (vp_updL r22.2.1 nk ((r22.2.1 nk) ||| (ylshl 1 (nI i))), r22.2.2.1, r22.2.2.2.1, r22.2.2.2.2.1, r22.2.2.2.2.2.1, r22.2.2.2.2.2.2.1, r22.2.2.2.2.2.2.2.1, r22.2.2.2.2.2.2.2.2))) else ((-2), mo, r22.2))))))) else (md_make_L3 nk what f1 f2 f3 mo mn k (i + 1))) else (md_make_L3 nk what f1 f2 f3 mo mn k (i + 1))) else (md_make_L3 nk what f1 f2 f3 mo mn k (i + 1))) else (md_make_L3 nk what f1 f2 f3 mo mn k (i + 1)))
def md_make (nk : Nat) (what : Int32) (f1 : Int32) (f2 : Int32) (f3 : Int32) (mo : MO) (mn : MN) : Int32 × MO × MN :=
  (md_make_L3 nk what f1 f2 f3 mo mn mo.1 0)
def md_entry (nk : Nat) (x : Int32) (mo : MO) (mn : MN) : Bool :=
  (yb (md_has nk x mo mn) fun r1 => (if r1 = true then (if 2 ≤ (mo.2.1 x.toNatClampNeg) then false else true) else false))
def md_blob (node : Int32) (content : Int32) (mo : MO) (mn : MN) : Int32 × MO × MN :=
  (yb (md_isNode node) fun r1 => (if r1 = true then (yn node fun nk => (if mn.2.2.1 nk = true then ((-2), mo, mn) else (yb (md_make nk 0 content (-1) (-1) mo mn) fun r4 => (r4.1, r4.2.1, r4.2.2)))) else ((-1), mo, mn)))
def md_tree (node : Int32) (f1 : Int32) (f2 : Int32) (mo : MO) (mn : MN) : Int32 × MO × MN :=
  (yb (md_isNode node) fun r1 => (if r1 = true then (yn node fun nk => (if mn.2.2.1 nk = true then ((-2), mo, mn) else (yb (md_entry nk f1 mo mn) fun r4 => (if r4 = true then (if f2 = (-1) then (yb (md_make nk 1 f1 f2 (-1) mo mn) fun r7 => (r7.1, r7.2.1, r7.2.2)) else (yb (md_entry nk f2 mo mn) fun r8 => (if r8 = true then (yb (md_make nk 1 f1 f2 (-1) mo mn) fun r10 => (r10.1, r10.2.1, r10.2.2)) else ((-1), mo, mn)))) else ((-1), mo, mn))))) else ((-1), mo, mn)))
def md_commit (node : Int32) (rf : Int32) (tree : Int32) (other : Int32) (mo : MO) (mn : MN) (mw : MW) : Int32 × MO × MN × MW :=
  (yb (md_isNode node) fun r1 => (if r1 = true then (if rf < 0 then ((-1), mo, mn, mw) else (if rf ≤ 3 then (yn node fun nk => (yn rf fun rn => (if mn.2.2.1 nk = true then ((-2), mo, mn, mw) else (yb (md_has nk tree mo mn) fun r6 => (if r6 = true then (if (mo.2.1 tree.toNatClampNeg) = 1 then (if other = (-1) then (if ((mn.2.1 ((8 * nk) + rn)) - 1) < 0 then (yb (md_make nk 2 tree other (-1) mo mn) fun r12 => (if 0 ≤ r12.1 then (yb (md_wish rn (r12.1 + 1) (0, mw.2.1, mw.2.2)) fun r14 => (yb (md_transact nk r12.2.2 r14) fun r15 => (if r15.1 = true then (r12.1, r12.2.1, r15.2, r14) else ((-2), r12.2.1, r15.2, r14)))) else (r12.1, r12.2.1, r12.2.2, mw))) else (yb (md_make nk 2 tree ((mn.2.1 ((8 * nk) + rn)) - 1) other mo mn) fun r18 => (if 0 ≤ r18.1 then (yb (md_wish rn (r18.1 + 1) (0, mw.2.1, mw.2.2)) fun r20 => (yb (md_transact nk r18.2.2 r20) fun r21 => (if r21.1 = true then (r18.1, r18.2.1, r21.2, r20) else ((-2), r18.2.1, r21.2, r20)))) else (r18.1, r18.2.1, r18.2.2, mw)))) else (yb (md_has nk other mo mn) fun r23 => (if r23 = true then (if (mo.2.1 other.toNatClampNeg) = 2 then (if other = ((mn.2.1 ((8 * nk) + rn)) - 1) then ((-1), mo, mn, mw) else (if ((mn.2.1 ((8 * nk) + rn)) - 1) < 0 then (yb (md_make nk 2 tree other (-1) mo mn) fun r29 => (if 0 ≤ r29.1 then (yb (md_wish rn (r29.1 + 1) (0, mw.2.1, mw.2.2)) fun r31 => (yb (md_transact nk r29.2.2 r31) fun r32 => (if r32.1 = true then (r29.1, r29.2.1, r32.2, r31) else ((-2), r29.2.1, r32.2, r31)))) else (r29.1, r29.2.1, r29.2.2, mw))) else (yb (md_make nk 2 tree ((mn.2.1 ((8 * nk) + rn)) - 1) other mo mn) fun r35 => (if 0 ≤ r35.1 then (yb (md_wish rn (r35.1 + 1) (0, mw.2.1, mw.2.2)) fun r37 => (yb (md_transact nk r35.2.2 r37) fun r38 => (if r38.1 = true then (r35.1, r35.2.1, r38.2, r37) else ((-2), r35.2.1, r38.2, r37)))) else (r35.1, r35.2.1, r35.2.2, mw))))) else ((-1), mo, mn, mw)) else ((-1), mo, mn, mw)))) else ((-1), mo, mn, mw)) else ((-1), mo, mn, mw)))))) else ((-1), mo, mn, mw))) else ((-1), mo, mn, mw)))
def md_point (node : Int32) (rf : Int32) (cm : Int32) (mo : MO) (mn : MN) (mw : MW) : Int32 × MN × MW :=
  (yb (md_isNode node) fun r1 => (if r1 = true then (if rf < 0 then ((-1), mn, mw) else (if rf ≤ 3 then (yn node fun nk => (yn rf fun rn => (if mn.2.2.1 nk = true then ((-2), mn, mw) else (if cm = (-1) then (if (mn.2.1 ((8 * nk) + rn)) = (cm + 1) then (0, mn, mw) else (yb (md_wish rn (cm + 1) (0, mw.2.1, mw.2.2)) fun r8 => (yb (md_transact nk mn r8) fun r9 => (if r9.1 = true then (1, r9.2, r8) else ((-2), r9.2, r8))))) else (yb (md_has nk cm mo mn) fun r11 => (if r11 = true then (if (mo.2.1 cm.toNatClampNeg) = 2 then (if (mn.2.1 ((8 * nk) + rn)) = (cm + 1) then (0, mn, mw) else (yb (md_wish rn (cm + 1) (0, mw.2.1, mw.2.2)) fun r15 => (yb (md_transact nk mn r15) fun r16 => (if r16.1 = true then (1, r16.2, r15) else ((-2), r16.2, r15))))) else ((-1), mn, mw)) else ((-1), mn, mw))))))) else ((-1), mn, mw))) else ((-1), mn, mw)))
def md_place_L142 (x : Nat) (q : Nat) (mo : MO) (mp : MP) (K : Int32 → MP) : Nat → Nat → Int32 → MP
  | 0, i, w => (K w)
  | k + 1, i, w => (if ((yishr (mo.2.2.1 x) (nI (4 * i))) &&& 15) = ((yishr (mo.2.2.1 (mp.2.1 q % 60)) (nI (4 * i))) &&& 15) then (md_place_L142 x q mo mp K k (i + 1) (w + 0)) else (md_place_L142 x q mo mp K k (i + 1) (w + 1)))
def md_place_L92 (x : Nat) (mo : MO) : Nat → Nat → MP → MP
  | 0, pp, mp => mp
  | q + 1, pp, mp => (if (nI q) < ((nI pp) - 3) then mp else (if (mo.2.1 x) = 0 then (if (mo.2.1 (mp.2.1 q % 60)) = 0 then (if 2 ≤ (mp.2.2.2.1 q) then (md_place_L92 x mo q pp mp) else (md_place_L142 x q mo mp (fun w => (if (mp.2.2.2.2 pp) ≤ w then (md_place_L92 x mo q pp mp) else (md_place_L92 x mo q pp (mp.1, mp.2.1, upd mp.2.2.1 pp (nI q), upd mp.2.2.2.1 pp ((mp.2.2.2.1 q) + 1), upd mp.2.2.2.2 pp w)))) 8 0 2)) else (md_place_L92 x mo q pp mp)) else (md_place_L92 x mo q pp mp)))
def md_place (x : Nat) (mo : MO) (mp : MP) : MP :=
  (if (mo.2.1 x) = 0 then (md_place_L92 x mo mp.1 mp.1 (mp.1 + 1, yupN mp.2.1 mp.1 x, upd mp.2.2.1 mp.1 (-4), upd mp.2.2.2.1 mp.1 0, upd mp.2.2.2.2 mp.1 8)) else (if (mo.2.2.2.1 x) < 0 then (if (mo.2.2.2.2 x) < 0 then (md_place_L92 x mo mp.1 mp.1 (mp.1 + 1, yupN mp.2.1 mp.1 x, upd mp.2.2.1 mp.1 (-4), upd mp.2.2.2.1 mp.1 0, upd mp.2.2.2.2 mp.1 ((2 + 0) + 0))) else (md_place_L92 x mo mp.1 mp.1 (mp.1 + 1, yupN mp.2.1 mp.1 x, upd mp.2.2.1 mp.1 (-4), upd mp.2.2.2.1 mp.1 0, upd mp.2.2.2.2 mp.1 ((2 + 0) + 1)))) else (if (mo.2.2.2.2 x) < 0 then (md_place_L92 x mo mp.1 mp.1 (mp.1 + 1, yupN mp.2.1 mp.1 x, upd mp.2.2.1 mp.1 (-4), upd mp.2.2.2.1 mp.1 0, upd mp.2.2.2.2 mp.1 ((2 + 1) + 0))) else (md_place_L92 x mo mp.1 mp.1 (mp.1 + 1, yupN mp.2.1 mp.1 x, upd mp.2.2.1 mp.1 (-4), upd mp.2.2.2.1 mp.1 0, upd mp.2.2.2.2 mp.1 ((2 + 1) + 1))))))
def md_pack_L19 (set : Int64) (kk : Nat) (mo : MO) (K : MP → MP) : Nat → MP → MP
  | 0, mp => (K mp)
  | x + 1, mp => (if ((ylshr set (nI x)) &&& 1) = 1 then (if (mo.2.1 x) = (nI kk) then (yb (md_place x mo mp) fun r3 => (md_pack_L19 set kk mo K x r3)) else (md_pack_L19 set kk mo K x mp)) else (md_pack_L19 set kk mo K x mp))
def md_pack_L7 (set : Int64) (mo : MO) : Nat → MP → MP
  | 0, mp => mp
  | kk + 1, mp => (md_pack_L19 set kk mo (fun mp => (md_pack_L7 set mo kk mp)) mo.1 mp)
def md_pack (set : Int64) (mo : MO) (mp : MP) : MP :=
  (md_pack_L7 set mo 3 (0, mp.2.1, mp.2.2.1, mp.2.2.2.1, mp.2.2.2.2))
def md_allReach_L3 (from_ : Int64) (to_ : Int64) (mo : MO) : Nat → Nat → Bool
  | 0, i => true
  | k + 1, i => (if ((ylshr from_ (nI i)) &&& 1) = 1 then (yb (md_reach (ylshl 1 (nI i)) mo) fun r2 => (if (r2 &&& to_) = 0 then false else (md_allReach_L3 from_ to_ mo k (i + 1)))) else (md_allReach_L3 from_ to_ mo k (i + 1)))
def md_allReach (from_ : Int64) (to_ : Int64) (mo : MO) : Bool :=
  (md_allReach_L3 from_ to_ mo mo.1 0)
def md_converse_L97 (mo : MO) (mn : MN) (K : Int64 → Int32 → Int64 → Int64 × MT) : Nat → Int64 → Int32 → Int64 → (Int64 × MT)
  | 0, opn, sent, now => (K opn sent now)
  | x + 1, opn, sent, now => (if 3 ≤ sent then (md_converse_L97 mo mn K x opn sent now) else (if ((ylshr opn (nI x)) &&& 1) = 1 then (yb (md_has 0 (nI x) mo mn) fun r3 => (if r3 = true then (md_converse_L97 mo mn K x (opn &&& ((ylshl 1 (nI x)) ^^^ (-1))) (sent + 1) (now ||| (ylshl 1 (nI x)))) else (md_converse_L97 mo mn K x (opn &&& ((ylshl 1 (nI x)) ^^^ (-1))) (sent + 1) now))) else (md_converse_L97 mo mn K x opn sent now)))
def md_converse_L69 (wants : Int64) (mo : MO) (mn : MN) : Nat → Nat → Int64 → Int64 → MT → (Int64 × MT)
  | 0, i, known, opn, mt => (known, mt)
  | k + 1, i, known, opn, mt => (if opn = 0 then (known, mt) else (md_converse_L97 mo mn (fun opn sent now => (yb (md_many now) fun r6 => (yb (md_allReach wants (known ||| now) mo) fun r7 => (if r7 = true then (known ||| now, ((mt.1 + sent), (mt.2.1 + r6), (mt.2.2 + 1))) else (yb (md_reach (known ||| now) mo) fun r9 => (md_converse_L69 wants mo mn k (i + 1) (known ||| now) (opn &&& (r9 ^^^ (-1))) ((mt.1 + sent), (mt.2.1 + r6), (mt.2.2 + 1)))))))) mo.1 opn 0 0))
def md_converse_L23 (wants : Int64) (mo : MO) (mn : MN) (mt : MT) : Nat → Nat → Int64 → Int64 → Int64 → (Int64 × MT)
  | 0, i, known, opn, set => (md_converse_L69 wants mo mn 60 0 known opn mt)
  | k + 1, i, known, opn, set => (if (mo.2.1 i) = 2 then (md_converse_L23 wants mo mn mt k (i + 1) known (opn ||| (set &&& (ylshl 1 (nI i)))) set) else (md_converse_L23 wants mo mn mt k (i + 1) known opn set))
def md_converse (nk : Nat) (wants : Int64) (mo : MO) (mn : MN) (mt : MT) : Int64 × MT :=
  (yb (md_tips nk 0 7 mn) fun r11 => (yb (md_reach r11 mo) fun r12 => (md_converse_L23 wants mo mn mt mo.1 0 0 0 r12)))
def md_fetch_L54 (set : Int32) (mo : MO) (mn : MN) (mp : MP) : Nat → Nat → Nat → Int64 → MW → (Int32 × MN × MW × MT × MP)
  | 0, i, nk, wants, mw => (if wants = 0 then (yb (md_reach wants mo) fun r10 => (yb (md_reach 0 mo) fun r11 => (yb (md_pack (r10 &&& (r11 ^^^ (-1))) mo mp) fun r12 => (yb (md_store nk (r10 &&& (r11 ^^^ (-1))) mo mn) fun r13 => (if r13.1 = true then (yb (md_transact nk r13.2 mw) fun r15 => (if r15.1 = true then ((nI r12.1), r15.2, mw, (0, 0, 0), r12) else ((-2), r15.2, mw, (0, 0, 0), r12))) else ((-2), r13.2, mw, (0, 0, 0), r12)))))) else (yb (md_converse nk wants mo mn (0, 0, 0)) fun r2 => (yb (md_reach wants mo) fun r3 => (yb (md_reach r2.1 mo) fun r4 => (yb (md_pack (r3 &&& (r4 ^^^ (-1))) mo mp) fun r5 => (yb (md_store nk (r3 &&& (r4 ^^^ (-1))) mo mn) fun r6 => (if r6.1 = true then (yb (md_transact nk r6.2 mw) fun r8 => (if r8.1 = true then ((nI r5.1), r8.2, mw, r2.2, r5) else ((-2), r8.2, mw, r2.2, r5))) else ((-2), r6.2, mw, r2.2, r5))))))))
  | k + 1, i, nk, wants, mw => (if ((yishr set (nI i)) &&& 1) = 1 then (if (mn.2.1 i) ≤ 0 then (md_fetch_L54 set mo mn mp k (i + 1) nk wants mw) else (yb (md_wish (4 + i) (mn.2.1 i) mw) fun r19 => (yb (md_has nk ((mn.2.1 i) - 1) mo mn) fun r20 => (if r20 = true then (md_fetch_L54 set mo mn mp k (i + 1) nk wants r19) else (md_fetch_L54 set mo mn mp k (i + 1) nk (wants ||| (ylshl 1 ((mn.2.1 i) - 1))) r19))))) else (md_fetch_L54 set mo mn mp k (i + 1) nk wants mw))
def md_fetch (node : Int32) (set : Int32) (mo : MO) (mn : MN) (mw : MW) (mt : MT) (mp : MP) : Int32 × MN × MW × MT × MP :=
  (if node < 1 then ((-1), mn, mw, mt, mp) else (if 2 < node then ((-1), mn, mw, mt, mp) else (if set < 1 then ((-1), mn, mw, mt, mp) else (if set ≤ 15 then (yn node fun nk => (if mn.2.2.1 nk = true then ((-2), mn, mw, mt, mp) else (if mn.2.2.1 0 = true then ((-2), mn, mw, mt, mp) else (md_fetch_L54 set mo mn mp 4 0 nk 0 (0, mw.2.1, mw.2.2))))) else ((-1), mn, mw, mt, mp)))))
def md_judge (r : Nat) (old : Int32) (fresh : Int32) (mo : MO) (mn : MN) : Int32 :=
  (if (mn.2.1 r) = old then (if old ≤ 0 then 1 else (yb (md_reach (ylshl 1 (fresh - 1)) mo) fun r3 => (if ((ylshr r3 (old - 1)) &&& 1) = 0 then 3 else 1))) else 2)
def md_carry_L119 (nk : Nat) (set : Int32) (sd : Nat) (mn : MN) (K : MW → Bool × MN × MW × MP) : Nat → Nat → MW → (Bool × MN × MW × MP)
  | 0, i, mw => (K mw)
  | k + 1, i, mw => (if ((yishr set (nI i)) &&& 1) = 1 then (if (nI sd) = 0 then (yb (md_wish i (mn.2.1 ((8 * nk) + i)) mw) fun r4 => (md_carry_L119 nk set sd mn K k (i + 1) r4)) else (yb (md_wish (4 + i) (mn.2.1 ((8 * nk) + i)) mw) fun r3 => (md_carry_L119 nk set sd mn K k (i + 1) r3))) else (md_carry_L119 nk set sd mn K k (i + 1) mw))
def md_carry_L93 (nk : Nat) (set : Int32) (mo : MO) : Nat → Nat → Int64 → MN → MW → MP → (Bool × MN × MW × MP)
  | 0, sd, packed, mn, mw, mp => (true, mn, mw, mp)
  | k + 1, sd, packed, mn, mw, mp => (if (nI sd) = 0 then (md_carry_L119 nk set sd mn (fun mw => (yb (md_store 0 packed mo mn) fun r10 => (if r10.1 = true then (yb (md_transact 0 r10.2 mw) fun r12 => (if r12.1 = true then (md_carry_L93 nk set mo k (sd + 1) packed r12.2 mw mp) else (false, r12.2, mw, mp))) else (false, r10.2, mw, mp)))) 4 0 (0, mw.2.1, mw.2.2)) else (md_carry_L119 nk set sd mn (fun mw => (yb (md_transact nk mn mw) fun r7 => (if r7.1 = true then (md_carry_L93 nk set mo k (sd + 1) packed r7.2 mw mp) else (false, r7.2, mw, mp)))) 4 0 (0, mw.2.1, mw.2.2)))
def md_carry_L5 (nk : Nat) (set : Int32) (mo : MO) (mn : MN) (mw : MW) (mp : MP) : Nat → Nat → Int64 → (Bool × MN × MW × MP)
  | 0, i, fresh => (yb (md_tips 0 0 3 mn) fun r14 => (yb (md_reach fresh mo) fun r15 => (yb (md_reach (r14 &&& (mn.1 nk)) mo) fun r16 => (yb (md_pack (r15 &&& (r16 ^^^ (-1))) mo mp) fun r17 => (md_carry_L93 nk set mo 2 0 (r15 &&& (r16 ^^^ (-1))) mn mw r17)))))
  | k + 1, i, fresh => (if ((yishr set (nI i)) &&& 1) = 1 then (md_carry_L5 nk set mo mn mw mp k (i + 1) (fresh ||| (ylshl 1 ((mn.2.1 ((8 * nk) + i)) - 1)))) else (md_carry_L5 nk set mo mn mw mp k (i + 1) fresh))
def md_carry (nk : Nat) (set : Int32) (mo : MO) (mn : MN) (mw : MW) (mp : MP) : Bool × MN × MW × MP :=
  (md_carry_L5 nk set mo mn mw mp 4 0 0)
def md_push_L87 (set : Int32) (mo : MO) (mn : MN) (mw : MW) (mp : MP) : Nat → Nat → Nat → Bool → (Nat → Int32) → (Int32 × MN × MW × (Nat → Int32) × MP)
  | 0, i, nk, fine, mv => (if fine = true then (yb (md_carry nk set mo mn mw mp) fun r2 => (if r2.1 = true then (1, r2.2.1, r2.2.2.1, mv, r2.2.2.2) else ((-2), r2.2.1, r2.2.2.1, mv, r2.2.2.2))) else (0, mn, mw, mv, (0, mp.2.1, mp.2.2.1, mp.2.2.2.1, mp.2.2.2.2)))
  | k + 1, i, nk, fine, mv => (if ((yishr set (nI i)) &&& 1) = 0 then (if fine = true then (if 2 ≤ ((upd mv i 0) i) then (md_push_L87 set mo mn mw mp k (i + 1) nk false (upd mv i 0)) else (md_push_L87 set mo mn mw mp k (i + 1) nk true (upd mv i 0))) else (md_push_L87 set mo mn mw mp k (i + 1) nk false (upd mv i 0))) else (yb (md_judge i (mn.2.1 (((8 * nk) + 4) + i)) (mn.2.1 ((8 * nk) + i)) mo mn) fun r5 => (if fine = true then (if 2 ≤ ((upd mv i r5) i) then (md_push_L87 set mo mn mw mp k (i + 1) nk false (upd mv i r5)) else (md_push_L87 set mo mn mw mp k (i + 1) nk true (upd mv i r5))) else (md_push_L87 set mo mn mw mp k (i + 1) nk false (upd mv i r5)))))
def md_push_L46 (set : Int32) (mo : MO) (mn : MN) (mw : MW) (mv : (Nat → Int32)) (mp : MP) : Nat → Nat → Nat → (Int32 × MN × MW × (Nat → Int32) × MP)
  | 0, i, nk => (md_push_L87 set mo mn mw mp 4 0 nk true mv)
  | k + 1, i, nk => (if ((yishr set (nI i)) &&& 1) = 1 then (if (mn.2.1 ((8 * nk) + i)) = 0 then ((-1), mn, mw, mv, mp) else (md_push_L46 set mo mn mw mv mp k (i + 1) nk)) else (md_push_L46 set mo mn mw mv mp k (i + 1) nk))
def md_push (node : Int32) (set : Int32) (mo : MO) (mn : MN) (mw : MW) (mv : (Nat → Int32)) (mp : MP) : Int32 × MN × MW × (Nat → Int32) × MP :=
  (if node < 1 then ((-1), mn, mw, mv, mp) else (if 2 < node then ((-1), mn, mw, mv, mp) else (if set < 1 then ((-1), mn, mw, mv, mp) else (if set ≤ 15 then (yn node fun nk => (if mn.2.2.1 nk = true then ((-2), mn, mw, mv, mp) else (if mn.2.2.1 0 = true then ((-2), mn, mw, mv, mp) else (md_push_L46 set mo mn mw mv mp 4 0 nk)))) else ((-1), mn, mw, mv, mp)))))
def md_arm (node : Int32) (n : Int32) (mn : MN) : Bool × MN :=
  (yb (md_isNode node) fun r1 => (if r1 = true then (if n < (-1) then (false, mn) else (if n ≤ 100 then (yn node fun nk => (true, (mn.1, mn.2.1, mn.2.2.1, upd mn.2.2.2.1 nk (n + 1), mn.2.2.2.2.1, mn.2.2.2.2.2.1, mn.2.2.2.2.2.2.1, mn.2.2.2.2.2.2.2))) else (false, mn))) else (false, mn)))
def md_recover (node : Int32) (mn : MN) : Int32 × MN :=
  (yb (md_isNode node) fun r1 => (if r1 = true then (yn node fun nk => (if mn.2.2.1 nk = true then (if mn.2.2.2.2.2.1 nk = true then (yb (md_replay nk mn) fun r13 => (if r13.1 = true then ((nI (mn.2.2.2.2.1 nk % 5)), (r13.2.1, r13.2.2.1, yupB r13.2.2.2.1 nk false, r13.2.2.2.2.1, r13.2.2.2.2.2.1, r13.2.2.2.2.2.2.1, r13.2.2.2.2.2.2.2.1, r13.2.2.2.2.2.2.2.2)) else ((-2), r13.2))) else (if (nI (mn.2.2.2.2.1 nk % 5)) = 0 then (0, (mn.1, mn.2.1, yupB mn.2.2.1 nk false, mn.2.2.2.1, mn.2.2.2.2.1, mn.2.2.2.2.2.1, mn.2.2.2.2.2.2.1, mn.2.2.2.2.2.2.2)) else (yb (md_wipe nk mn) fun r8 => (if r8.1 = true then (0, (r8.2.1, r8.2.2.1, yupB r8.2.2.2.1 nk false, r8.2.2.2.2.1, r8.2.2.2.2.2.1, r8.2.2.2.2.2.2.1, r8.2.2.2.2.2.2.2.1, r8.2.2.2.2.2.2.2.2)) else ((-2), r8.2))))) else ((-1), mn))) else ((-1), mn)))
def md_collect (node : Int32) (mo : MO) (mn : MN) : Int32 × MN :=
  (yb (md_isNode node) fun r1 => (if r1 = true then (yn node fun nk => (if mn.2.2.1 nk = true then ((-2), mn) else (yb (md_tips nk 0 7 mn) fun r4 => (yb (md_reach r4 mo) fun r5 => (yb (md_many (mn.1 nk)) fun r6 => (yb (md_many ((mn.1 nk) &&& r5)) fun r7 => ((r6 - r7), (vp_updL mn.1 nk ((mn.1 nk) &&& r5), mn.2.1, mn.2.2.1, mn.2.2.2.1, mn.2.2.2.2.1, mn.2.2.2.2.2.1, mn.2.2.2.2.2.2.1, mn.2.2.2.2.2.2.2)))))))) else ((-1), mn)))
def md_up (node : Int32) (mn : MN) : Bool :=
  (yb (md_isNode node) fun r1 => (if r1 = true then (yn node fun nk => (if mn.2.2.1 nk = true then false else true)) else false))
def md_reference (node : Int32) (rf : Int32) (mn : MN) : Int32 :=
  (yb (md_isNode node) fun r1 => (if r1 = true then (if rf < 0 then (-1) else (if rf ≤ 7 then (yn node fun nk => (yn rf fun rn => (if mn.2.2.1 nk = true then (-2) else (if (mn.2.1 ((8 * nk) + rn)) = 0 then (-4) else ((mn.2.1 ((8 * nk) + rn)) - 1))))) else (-1))) else (-1)))
def md_holds (node : Int32) (num : Int32) (mo : MO) (mn : MN) : Int32 :=
  (yb (md_isNode node) fun r1 => (if r1 = true then (yn node fun nk => (if mn.2.2.1 nk = true then (-2) else (yb (md_has nk num mo mn) fun r4 => (if r4 = true then 1 else 0)))) else (-1)))
def md_count (node : Int32) (mn : MN) : Int32 :=
  (yb (md_isNode node) fun r1 => (if r1 = true then (yn node fun nk => (if mn.2.2.1 nk = true then (-2) else (yb (md_many (mn.1 nk)) fun r4 => r4))) else (-1)))
def md_talk (w : Int32) (mt : MT) : Int32 :=
  (if w < 0 then (-1) else (if w ≤ 2 then (if w = 0 then mt.1 else (if w = 1 then mt.2.1 else mt.2.2)) else (-1)))
def md_packed (mp : MP) : Nat :=
  mp.1
def md_packAt (pl : Int32) (mp : MP) : Int32 :=
  (if pl < 0 then (-4) else (if pl < (nI mp.1) then (nI (mp.2.1 pl.toNatClampNeg % 60)) else (-4)))
def md_base (pl : Int32) (mp : MP) : Int32 :=
  (if pl < 0 then (-4) else (if pl < (nI mp.1) then (mp.2.2.1 pl.toNatClampNeg) else (-4)))
def md_weight_L4 (mp : MP) : Nat → Nat → Int32 → Int32
  | 0, i, sum => sum
  | k + 1, i, sum => (md_weight_L4 mp k (i + 1) (sum + (mp.2.2.2.2 i)))
def md_weight (mp : MP) : Int32 :=
  (md_weight_L4 mp mp.1 0 0)
def md_verdict (r : Int32) (mv : (Nat → Int32)) : Int32 :=
  (if r < 0 then 0 else (if r ≤ 3 then (mv r.toNatClampNeg) else 0))
def st_init : SS := ((fun _ => 0), (fun _ => 0), (fun _ => 0), (fun _ => 0), (fun _ => 0), 0)
def nd_init : NS := (upd (upd (upd (upd (upd (upd (upd (upd (fun _ => 0) 0 (-1)) 1 (-1)) 2 (-1)) 3 (-1)) 4 (-1)) 5 (-1)) 6 (-1)) 7 (-1), upd (upd (upd (upd (upd (upd (upd (upd (fun _ => 0) 0 (-2)) 1 (-2)) 2 (-2)) 3 (-2)) 4 (-2)) 5 (-2)) 6 (-2)) 7 (-2), 0, false, 0, true, (-1))
def tk_init : TS := (0, 0, 0)
def pk_init : PS := ((fun _ => 0), (fun _ => 0), (fun _ => 0), 0, 0, 0)
def md_init_o : MO := (0, (fun _ => 0), (fun _ => 0), (fun _ => 0), (fun _ => 0))
def md_init_n : MN := ((fun _ => 0), (fun _ => 0), (fun _ => false), (fun _ => 0), (fun _ => 0), (fun _ => false), (fun _ => 0), (fun _ => 0))
def md_init_w : MW := (0, (fun _ => 0), (fun _ => 0))
def md_init_t : MT := (0, 0, 0)
def md_init_v : Nat → Int32 := fun _ => 0
def md_init_p : MP := (0, (fun _ => 0), (fun _ => 0), (fun _ => 0), (fun _ => 0))
