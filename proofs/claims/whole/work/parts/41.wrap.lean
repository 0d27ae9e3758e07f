theorem eK (τ : Nat → ClassId) (ad : Nat → Nat) (S : kSt) : ∃ fs, (wKP τ ad S)[0]? = some (ad 0, .inr (4, fs)) := by
  obtain ⟨⟨N, ar, len⟩, ⟨K, O, sz, bg, en, ln⟩, ⟨wd, wh, wp, wt⟩, ⟨rg, rs⟩, ⟨ib, ch⟩, ⟨pl0, af0, ⟨td0, th0, tp0, tt0⟩, ⟨sd0, sh0, sp0, st0⟩⟩, ⟨pl1, af1, ⟨td1, th1, tp1, tt1⟩, ⟨sd1, sh1, sp1, st1⟩⟩, ⟨pl2, af2, ⟨td2, th2, tp2, tt2⟩, ⟨sd2, sh2, sp2, st2⟩⟩⟩ := S
  exact ⟨_, rfl⟩
theorem eM (τ : Nat → ClassId) (md : Nat → Nat) (T : mT) : ∃ fs, (wM τ md T)[0]? = some (md 0, .inr (5, fs)) := by
  obtain ⟨⟨N, xc, sr⟩, ⟨xd, xh, xp, xt, xa⟩, ⟨vd, vh, vp, lst, fl, fh, fp⟩, ⟨K, mn, qp, qe⟩, ⟨th, ib, ch, rs, rg⟩⟩ := T
  exact ⟨_, rfl⟩
set_option maxRecDepth 100000 in
set_option maxHeartbeats 4000000 in
theorem dk_node (l : Launch) (D : va_G) (τ : Nat → ClassId) (ad : Nat → Nat) (S : kSt) (h : kOK S) : kMi l D τ yK_node (kWs yK_node cK_node 1 (some .int)) { frames := 1, cells := 0, slots := 0, locals := 20 } [.ref (ad 0)] (wKP τ ad S) (fNode S).1 (wKP τ (kAd (fNode S).2.1 ad) (fNode S).2.2) := by
  obtain ⟨⟨N, ar, len⟩, ⟨K, O, sz, bg, en, ln⟩, ⟨wd, wh, wp, wt⟩, ⟨rg, rs⟩, ⟨ib, ch⟩, ⟨pl0, af0, ⟨td0, th0, tp0, tt0⟩, ⟨sd0, sh0, sp0, st0⟩⟩, ⟨pl1, af1, ⟨td1, th1, tp1, tt1⟩, ⟨sd1, sh1, sp1, st1⟩⟩, ⟨pl2, af2, ⟨td2, th2, tp2, tt2⟩, ⟨sd2, sh2, sp2, st2⟩⟩⟩ := S
  obtain ⟨⟨hN, hKk, hOo⟩, hSz, hW, hU, h0, h1, h2, hR⟩ := h
  exact ck_node l D τ ad N ar len K O sz bg en ln wd wh wp wt rg rs ib ch pl0 af0 td0 th0 tp0 tt0 sd0 sh0 sp0 st0 pl1 af1 td1 th1 tp1 tt1 sd1 sh1 sp1 st1 pl2 af2 td2 th2 tp2 tt2 sd2 sh2 sp2 st2 hN hKk hOo
set_option maxRecDepth 100000 in
set_option maxHeartbeats 4000000 in
theorem dm_node (l : Launch) (D : va_G) (τ : Nat → ClassId) (md : Nat → Nat) (T : mT) (h : mOK T) : kMi l D τ yM_node (kWs yM_node cM_node 1 (some .int)) { frames := 2, cells := 0, slots := 0, locals := 54 } [.ref (md 0)] (wM τ md T) (gNode T).1 (wM τ md (gNode T).2) := by
  obtain ⟨⟨N, xc, sr⟩, ⟨xd, xh, xp, xt, xa⟩, ⟨vd, vh, vp, lst, fl, fh, fp⟩, ⟨K, mn, qp, qe⟩, ⟨th, ib, ch, rs, rg⟩⟩ := T
  obtain ⟨hN, hsr, hKk, hSz, hF, hU, hW, hR⟩ := h
  exact cm_node l D τ md th N K ib ch rs xc sr xd xh xp xt xa vd vh vp lst fl fh fp mn qp qe rg hN hsr hKk
set_option maxRecDepth 100000 in
set_option maxHeartbeats 4000000 in
theorem dk_source (l : Launch) (D : va_G) (τ : Nat → ClassId) (ad : Nat → Nat) (S : kSt) (x0 : Int32) (x1 : Int32) (h : kOK S) : kMi l D τ yK_source (kWs yK_source cK_source 4 (some .int)) { frames := 4, cells := 0, slots := 0, locals := 96 } [.ref (ad 0), .int x0, .int x1] (wKP τ ad S) (fSource S x0 x1).1 (wKP τ (kAd (fSource S x0 x1).2.1 ad) (fSource S x0 x1).2.2) := by
  obtain ⟨⟨N, ar, len⟩, ⟨K, O, sz, bg, en, ln⟩, ⟨wd, wh, wp, wt⟩, ⟨rg, rs⟩, ⟨ib, ch⟩, ⟨pl0, af0, ⟨td0, th0, tp0, tt0⟩, ⟨sd0, sh0, sp0, st0⟩⟩, ⟨pl1, af1, ⟨td1, th1, tp1, tt1⟩, ⟨sd1, sh1, sp1, st1⟩⟩, ⟨pl2, af2, ⟨td2, th2, tp2, tt2⟩, ⟨sd2, sh2, sp2, st2⟩⟩⟩ := S
  obtain ⟨⟨hN, hKk, hOo⟩, hSz, hW, hU, h0, h1, h2, hR⟩ := h
  exact ck_source l D τ ad N ar len K O sz bg en ln wd wh wp wt rg rs ib ch pl0 af0 td0 th0 tp0 tt0 sd0 sh0 sp0 st0 pl1 af1 td1 th1 tp1 tt1 sd1 sh1 sp1 st1 pl2 af2 td2 th2 tp2 tt2 sd2 sh2 sp2 st2 x0 x1 hN hKk hOo
set_option maxRecDepth 100000 in
set_option maxHeartbeats 4000000 in
theorem dm_source (l : Launch) (D : va_G) (τ : Nat → ClassId) (md : Nat → Nat) (T : mT) (x0 : Int32) (x1 : Int32) (h : mOK T) : kMi l D τ yM_source (kWs yM_source cM_source 4 (some .int)) { frames := 2, cells := 0, slots := 0, locals := 54 } [.ref (md 0), .int x0, .int x1] (wM τ md T) (gSource T x0 x1).1 (wM τ md (gSource T x0 x1).2) := by
  obtain ⟨⟨N, xc, sr⟩, ⟨xd, xh, xp, xt, xa⟩, ⟨vd, vh, vp, lst, fl, fh, fp⟩, ⟨K, mn, qp, qe⟩, ⟨th, ib, ch, rs, rg⟩⟩ := T
  obtain ⟨hN, hsr, hKk, hSz, hF, hU, hW, hR⟩ := h
  exact cm_source l D τ md th N K ib ch rs xc sr xd xh xp xt xa vd vh vp lst fl fh fp mn qp qe rg x0 x1 hN hsr hKk
set_option maxRecDepth 100000 in
set_option maxHeartbeats 4000000 in
theorem dk_put (l : Launch) (D : va_G) (τ : Nat → ClassId) (ad : Nat → Nat) (S : kSt) (x0 : Int32) (x1 : Int32) (x2 : Int32) (h : kOK S) : kMi l D τ yK_put (kWs yK_put cK_put 4 (some .int)) { frames := 6, cells := 0, slots := 0, locals := 141 } [.ref (ad 0), .int x0, .int x1, .int x2] (wKP τ ad S) (fPut S x0 x1 x2).1 (wKP τ (kAd (fPut S x0 x1 x2).2.1 ad) (fPut S x0 x1 x2).2.2) := by
  obtain ⟨⟨N, ar, len⟩, ⟨K, O, sz, bg, en, ln⟩, ⟨wd, wh, wp, wt⟩, ⟨rg, rs⟩, ⟨ib, ch⟩, ⟨pl0, af0, ⟨td0, th0, tp0, tt0⟩, ⟨sd0, sh0, sp0, st0⟩⟩, ⟨pl1, af1, ⟨td1, th1, tp1, tt1⟩, ⟨sd1, sh1, sp1, st1⟩⟩, ⟨pl2, af2, ⟨td2, th2, tp2, tt2⟩, ⟨sd2, sh2, sp2, st2⟩⟩⟩ := S
  obtain ⟨⟨hN, hKk, hOo⟩, hSz, hW, hU, h0, h1, h2, hR⟩ := h
  exact ck_put l D τ ad N ar len K O sz bg en ln wd wh wp wt rg rs ib ch pl0 af0 td0 th0 tp0 tt0 sd0 sh0 sp0 st0 pl1 af1 td1 th1 tp1 tt1 sd1 sh1 sp1 st1 pl2 af2 td2 th2 tp2 tt2 sd2 sh2 sp2 st2 x0 x1 x2 hN hKk hOo hSz hW
set_option maxRecDepth 100000 in
set_option maxHeartbeats 4000000 in
theorem dm_put (l : Launch) (D : va_G) (τ : Nat → ClassId) (md : Nat → Nat) (T : mT) (x0 : Int32) (x1 : Int32) (x2 : Int32) (h : mOK T) : kMi l D τ yM_put (kWs yM_put cM_put 5 (some .int)) { frames := 4, cells := 0, slots := 0, locals := 101 } [.ref (md 0), .int x0, .int x1, .int x2] (wM τ md T) (gPut T x0 x1 x2).1 (wM τ md (gPut T x0 x1 x2).2) := by
  obtain ⟨⟨N, xc, sr⟩, ⟨xd, xh, xp, xt, xa⟩, ⟨vd, vh, vp, lst, fl, fh, fp⟩, ⟨K, mn, qp, qe⟩, ⟨th, ib, ch, rs, rg⟩⟩ := T
  obtain ⟨hN, hsr, hKk, hSz, hF, hU, hW, hR⟩ := h
  exact cm_put l D τ md th N K ib ch rs xc sr xd xh xp xt xa vd vh vp lst fl fh fp mn qp qe rg x0 x1 x2 hN hsr hKk hSz hF
set_option maxRecDepth 100000 in
set_option maxHeartbeats 4000000 in
theorem dk_take (l : Launch) (D : va_G) (τ : Nat → ClassId) (ad : Nat → Nat) (S : kSt) (x0 : Int32) (x1 : Int32) (h : kOK S) : kMi l D τ yK_take (kWs yK_take cK_take 3 (some .int)) { frames := 6, cells := 0, slots := 0, locals := 141 } [.ref (ad 0), .int x0, .int x1] (wKP τ ad S) (fTake S x0 x1).1 (wKP τ (kAd (fTake S x0 x1).2.1 ad) (fTake S x0 x1).2.2) := by
  obtain ⟨⟨N, ar, len⟩, ⟨K, O, sz, bg, en, ln⟩, ⟨wd, wh, wp, wt⟩, ⟨rg, rs⟩, ⟨ib, ch⟩, ⟨pl0, af0, ⟨td0, th0, tp0, tt0⟩, ⟨sd0, sh0, sp0, st0⟩⟩, ⟨pl1, af1, ⟨td1, th1, tp1, tt1⟩, ⟨sd1, sh1, sp1, st1⟩⟩, ⟨pl2, af2, ⟨td2, th2, tp2, tt2⟩, ⟨sd2, sh2, sp2, st2⟩⟩⟩ := S
  obtain ⟨⟨hN, hKk, hOo⟩, hSz, hW, hU, h0, h1, h2, hR⟩ := h
  exact ck_take l D τ ad N ar len K O sz bg en ln wd wh wp wt rg rs ib ch pl0 af0 td0 th0 tp0 tt0 sd0 sh0 sp0 st0 pl1 af1 td1 th1 tp1 tt1 sd1 sh1 sp1 st1 pl2 af2 td2 th2 tp2 tt2 sd2 sh2 sp2 st2 x0 x1 hN hKk hOo hSz
set_option maxRecDepth 100000 in
set_option maxHeartbeats 4000000 in
theorem dm_take (l : Launch) (D : va_G) (τ : Nat → ClassId) (md : Nat → Nat) (T : mT) (x0 : Int32) (x1 : Int32) (h : mOK T) : kMi l D τ yM_take (kWs yM_take cM_take 4 (some .int)) { frames := 4, cells := 0, slots := 0, locals := 101 } [.ref (md 0), .int x0, .int x1] (wM τ md T) (gTake T x0 x1).1 (wM τ md (gTake T x0 x1).2) := by
  obtain ⟨⟨N, xc, sr⟩, ⟨xd, xh, xp, xt, xa⟩, ⟨vd, vh, vp, lst, fl, fh, fp⟩, ⟨K, mn, qp, qe⟩, ⟨th, ib, ch, rs, rg⟩⟩ := T
  obtain ⟨hN, hsr, hKk, hSz, hF, hU, hW, hR⟩ := h
  exact cm_take l D τ md th N K ib ch rs xc sr xd xh xp xt xa vd vh vp lst fl fh fp mn qp qe rg x0 x1 hN hsr hKk hSz
set_option maxRecDepth 100000 in
set_option maxHeartbeats 4000000 in
theorem dk_arc (l : Launch) (D : va_G) (τ : Nat → ClassId) (ad : Nat → Nat) (S : kSt) (x0 : Int32) (x1 : Int32) (h : kOK S) : kMi l D τ yK_arc (kWs yK_arc cK_arc 3 (some .int)) { frames := 2, cells := 0, slots := 0, locals := 43 } [.ref (ad 0), .int x0, .int x1] (wKP τ ad S) (fArc S x0 x1) (wKP τ ad S) := by
  obtain ⟨⟨N, ar, len⟩, ⟨K, O, sz, bg, en, ln⟩, ⟨wd, wh, wp, wt⟩, ⟨rg, rs⟩, ⟨ib, ch⟩, ⟨pl0, af0, ⟨td0, th0, tp0, tt0⟩, ⟨sd0, sh0, sp0, st0⟩⟩, ⟨pl1, af1, ⟨td1, th1, tp1, tt1⟩, ⟨sd1, sh1, sp1, st1⟩⟩, ⟨pl2, af2, ⟨td2, th2, tp2, tt2⟩, ⟨sd2, sh2, sp2, st2⟩⟩⟩ := S
  obtain ⟨⟨hN, hKk, hOo⟩, hSz, hW, hU, h0, h1, h2, hR⟩ := h
  exact ck_arc l D τ ad N ar len K O sz bg en ln wd wh wp wt rg rs ib ch pl0 af0 td0 th0 tp0 tt0 sd0 sh0 sp0 st0 pl1 af1 td1 th1 tp1 tt1 sd1 sh1 sp1 st1 pl2 af2 td2 th2 tp2 tt2 sd2 sh2 sp2 st2 x0 x1 hN hKk hOo
set_option maxRecDepth 100000 in
set_option maxHeartbeats 4000000 in
theorem dm_arc (l : Launch) (D : va_G) (τ : Nat → ClassId) (md : Nat → Nat) (T : mT) (x0 : Int32) (x1 : Int32) (h : mOK T) : kMi l D τ yM_arc (kWs yM_arc cM_arc 3 (some .int)) { frames := 2, cells := 0, slots := 0, locals := 43 } [.ref (md 0), .int x0, .int x1] (wM τ md T) (gArc T x0 x1) (wM τ md (mTh T)) := by
  obtain ⟨⟨N, xc, sr⟩, ⟨xd, xh, xp, xt, xa⟩, ⟨vd, vh, vp, lst, fl, fh, fp⟩, ⟨K, mn, qp, qe⟩, ⟨th, ib, ch, rs, rg⟩⟩ := T
  obtain ⟨hN, hsr, hKk, hSz, hF, hU, hW, hR⟩ := h
  exact cm_arc l D τ md th N K ib ch rs xc sr xd xh xp xt xa vd vh vp lst fl fh fp mn qp qe rg x0 x1 hN hsr hKk
set_option maxRecDepth 100000 in
set_option maxHeartbeats 4000000 in
theorem dk_begin (l : Launch) (D : va_G) (τ : Nat → ClassId) (ad : Nat → Nat) (S : kSt) (h : kOK S) : kMi l D τ yK_begin (kWs yK_begin cK_begin 1 (some .int)) { frames := 0, cells := 0, slots := 0, locals := 0 } [.ref (ad 0)] (wKP τ ad S) (fBegin S).1 (wKP τ (kAd (fBegin S).2.1 ad) (fBegin S).2.2) := by
  obtain ⟨⟨N, ar, len⟩, ⟨K, O, sz, bg, en, ln⟩, ⟨wd, wh, wp, wt⟩, ⟨rg, rs⟩, ⟨ib, ch⟩, ⟨pl0, af0, ⟨td0, th0, tp0, tt0⟩, ⟨sd0, sh0, sp0, st0⟩⟩, ⟨pl1, af1, ⟨td1, th1, tp1, tt1⟩, ⟨sd1, sh1, sp1, st1⟩⟩, ⟨pl2, af2, ⟨td2, th2, tp2, tt2⟩, ⟨sd2, sh2, sp2, st2⟩⟩⟩ := S
  obtain ⟨⟨hN, hKk, hOo⟩, hSz, hW, hU, h0, h1, h2, hR⟩ := h
  exact ck_begin l D τ ad N ar len K O sz bg en ln wd wh wp wt rg rs ib ch pl0 af0 td0 th0 tp0 tt0 sd0 sh0 sp0 st0 pl1 af1 td1 th1 tp1 tt1 sd1 sh1 sp1 st1 pl2 af2 td2 th2 tp2 tt2 sd2 sh2 sp2 st2 hN hKk hOo
set_option maxRecDepth 100000 in
set_option maxHeartbeats 4000000 in
theorem dm_begin (l : Launch) (D : va_G) (τ : Nat → ClassId) (md : Nat → Nat) (T : mT) (h : mOK T) : kMi l D τ yM_begin (kWs yM_begin cM_begin 1 (some .int)) { frames := 0, cells := 0, slots := 0, locals := 0 } [.ref (md 0)] (wM τ md T) (gBegin T).1 (wM τ md (gBegin T).2) := by
  obtain ⟨⟨N, xc, sr⟩, ⟨xd, xh, xp, xt, xa⟩, ⟨vd, vh, vp, lst, fl, fh, fp⟩, ⟨K, mn, qp, qe⟩, ⟨th, ib, ch, rs, rg⟩⟩ := T
  obtain ⟨hN, hsr, hKk, hSz, hF, hU, hW, hR⟩ := h
  exact cm_begin l D τ md th N K ib ch rs xc sr xd xh xp xt xa vd vh vp lst fl fh fp mn qp qe rg hN hsr hKk
set_option maxRecDepth 100000 in
set_option maxHeartbeats 4000000 in
theorem dk_end (l : Launch) (D : va_G) (τ : Nat → ClassId) (ad : Nat → Nat) (S : kSt) (h : kOK S) : kMi l D τ yK_end (kWs yK_end cK_end 2 (some .int)) { frames := 5, cells := 0, slots := 0, locals := 117 } [.ref (ad 0)] (wKP τ ad S) (fEnd S).1 (wKP τ (kAd (fEnd S).2.1 ad) (fEnd S).2.2) := by
  obtain ⟨⟨N, ar, len⟩, ⟨K, O, sz, bg, en, ln⟩, ⟨wd, wh, wp, wt⟩, ⟨rg, rs⟩, ⟨ib, ch⟩, ⟨pl0, af0, ⟨td0, th0, tp0, tt0⟩, ⟨sd0, sh0, sp0, st0⟩⟩, ⟨pl1, af1, ⟨td1, th1, tp1, tt1⟩, ⟨sd1, sh1, sp1, st1⟩⟩, ⟨pl2, af2, ⟨td2, th2, tp2, tt2⟩, ⟨sd2, sh2, sp2, st2⟩⟩⟩ := S
  obtain ⟨⟨hN, hKk, hOo⟩, hSz, hW, hU, h0, h1, h2, hR⟩ := h
  exact ck_end l D τ ad N ar len K O sz bg en ln wd wh wp wt rg rs ib ch pl0 af0 td0 th0 tp0 tt0 sd0 sh0 sp0 st0 pl1 af1 td1 th1 tp1 tt1 sd1 sh1 sp1 st1 pl2 af2 td2 th2 tp2 tt2 sd2 sh2 sp2 st2 hN hKk hOo
set_option maxRecDepth 100000 in
set_option maxHeartbeats 4000000 in
theorem dm_end (l : Launch) (D : va_G) (τ : Nat → ClassId) (md : Nat → Nat) (T : mT) (h : mOK T) : kMi l D τ yM_end (kWs yM_end cM_end 2 (some .int)) { frames := 3, cells := 0, slots := 0, locals := 78 } [.ref (md 0)] (wM τ md T) (gEnd T).1 (wM τ md (gEnd T).2) := by
  obtain ⟨⟨N, xc, sr⟩, ⟨xd, xh, xp, xt, xa⟩, ⟨vd, vh, vp, lst, fl, fh, fp⟩, ⟨K, mn, qp, qe⟩, ⟨th, ib, ch, rs, rg⟩⟩ := T
  obtain ⟨hN, hsr, hKk, hSz, hF, hU, hW, hR⟩ := h
  exact cm_end l D τ md th N K ib ch rs xc sr xd xh xp xt xa vd vh vp lst fl fh fp mn qp qe rg hN hsr hKk
set_option maxRecDepth 100000 in
set_option maxHeartbeats 4000000 in
theorem dk_undo (l : Launch) (D : va_G) (τ : Nat → ClassId) (ad : Nat → Nat) (S : kSt) (h : kOK S) : kMi l D τ yK_undo (kWs yK_undo cK_undo 1 (some .int)) { frames := 5, cells := 0, slots := 0, locals := 117 } [.ref (ad 0)] (wKP τ ad S) (fUndo S).1 (wKP τ (kAd (fUndo S).2.1 ad) (fUndo S).2.2) := by
  obtain ⟨⟨N, ar, len⟩, ⟨K, O, sz, bg, en, ln⟩, ⟨wd, wh, wp, wt⟩, ⟨rg, rs⟩, ⟨ib, ch⟩, ⟨pl0, af0, ⟨td0, th0, tp0, tt0⟩, ⟨sd0, sh0, sp0, st0⟩⟩, ⟨pl1, af1, ⟨td1, th1, tp1, tt1⟩, ⟨sd1, sh1, sp1, st1⟩⟩, ⟨pl2, af2, ⟨td2, th2, tp2, tt2⟩, ⟨sd2, sh2, sp2, st2⟩⟩⟩ := S
  obtain ⟨⟨hN, hKk, hOo⟩, hSz, hW, hU, h0, h1, h2, hR⟩ := h
  exact ck_undo l D τ ad N ar len K O sz bg en ln wd wh wp wt rg rs ib ch pl0 af0 td0 th0 tp0 tt0 sd0 sh0 sp0 st0 pl1 af1 td1 th1 tp1 tt1 sd1 sh1 sp1 st1 pl2 af2 td2 th2 tp2 tt2 sd2 sh2 sp2 st2 hN hKk hOo hU
set_option maxRecDepth 100000 in
set_option maxHeartbeats 4000000 in
theorem dm_undo (l : Launch) (D : va_G) (τ : Nat → ClassId) (md : Nat → Nat) (T : mT) (h : mOK T) : kMi l D τ yM_undo (kWs yM_undo cM_undo 2 (some .int)) { frames := 3, cells := 0, slots := 0, locals := 78 } [.ref (md 0)] (wM τ md T) (gUndo T).1 (wM τ md (gUndo T).2) := by
  obtain ⟨⟨N, xc, sr⟩, ⟨xd, xh, xp, xt, xa⟩, ⟨vd, vh, vp, lst, fl, fh, fp⟩, ⟨K, mn, qp, qe⟩, ⟨th, ib, ch, rs, rg⟩⟩ := T
  obtain ⟨hN, hsr, hKk, hSz, hF, hU, hW, hR⟩ := h
  exact cm_undo l D τ md th N K ib ch rs xc sr xd xh xp xt xa vd vh vp lst fl fh fp mn qp qe rg hN hsr hKk hU
set_option maxRecDepth 100000 in
set_option maxHeartbeats 4000000 in
theorem dk_distance (l : Launch) (D : va_G) (τ : Nat → ClassId) (ad : Nat → Nat) (S : kSt) (x0 : Int32) (x1 : Int32) (h : kOK S) : kMi l D τ yK_distance (kWs yK_distance cK_distance 3 (some .int)) { frames := 1, cells := 0, slots := 0, locals := 21 } [.ref (ad 0), .int x0, .int x1] (wKP τ ad S) (fDist S x0 x1) (wKP τ ad S) := by
  obtain ⟨⟨N, ar, len⟩, ⟨K, O, sz, bg, en, ln⟩, ⟨wd, wh, wp, wt⟩, ⟨rg, rs⟩, ⟨ib, ch⟩, ⟨pl0, af0, ⟨td0, th0, tp0, tt0⟩, ⟨sd0, sh0, sp0, st0⟩⟩, ⟨pl1, af1, ⟨td1, th1, tp1, tt1⟩, ⟨sd1, sh1, sp1, st1⟩⟩, ⟨pl2, af2, ⟨td2, th2, tp2, tt2⟩, ⟨sd2, sh2, sp2, st2⟩⟩⟩ := S
  obtain ⟨⟨hN, hKk, hOo⟩, hSz, hW, hU, h0, h1, h2, hR⟩ := h
  exact ck_distance l D τ ad N ar len K O sz bg en ln wd wh wp wt rg rs ib ch pl0 af0 td0 th0 tp0 tt0 sd0 sh0 sp0 st0 pl1 af1 td1 th1 tp1 tt1 sd1 sh1 sp1 st1 pl2 af2 td2 th2 tp2 tt2 sd2 sh2 sp2 st2 x0 x1 hN hKk hOo
set_option maxRecDepth 100000 in
set_option maxHeartbeats 4000000 in
theorem dm_distance (l : Launch) (D : va_G) (τ : Nat → ClassId) (md : Nat → Nat) (T : mT) (x0 : Int32) (x1 : Int32) (h : mOK T) : kMi l D τ yM_distance (kWs yM_distance cM_distance 3 (some .int)) { frames := 3, cells := 0, slots := 0, locals := 65 } [.ref (md 0), .int x0, .int x1] (wM τ md T) (gDist T x0 x1) (wM τ md (mTh T)) := by
  obtain ⟨⟨N, xc, sr⟩, ⟨xd, xh, xp, xt, xa⟩, ⟨vd, vh, vp, lst, fl, fh, fp⟩, ⟨K, mn, qp, qe⟩, ⟨th, ib, ch, rs, rg⟩⟩ := T
  obtain ⟨hN, hsr, hKk, hSz, hF, hU, hW, hR⟩ := h
  exact cm_distance l D τ md th N K ib ch rs xc sr xd xh xp xt xa vd vh vp lst fl fh fp mn qp qe rg x0 x1 hN hsr hKk
set_option maxRecDepth 100000 in
set_option maxHeartbeats 4000000 in
theorem dk_hops (l : Launch) (D : va_G) (τ : Nat → ClassId) (ad : Nat → Nat) (S : kSt) (x0 : Int32) (x1 : Int32) (h : kOK S) : kMi l D τ yK_hops (kWs yK_hops cK_hops 3 (some .int)) { frames := 1, cells := 0, slots := 0, locals := 21 } [.ref (ad 0), .int x0, .int x1] (wKP τ ad S) (fHops S x0 x1) (wKP τ ad S) := by
  obtain ⟨⟨N, ar, len⟩, ⟨K, O, sz, bg, en, ln⟩, ⟨wd, wh, wp, wt⟩, ⟨rg, rs⟩, ⟨ib, ch⟩, ⟨pl0, af0, ⟨td0, th0, tp0, tt0⟩, ⟨sd0, sh0, sp0, st0⟩⟩, ⟨pl1, af1, ⟨td1, th1, tp1, tt1⟩, ⟨sd1, sh1, sp1, st1⟩⟩, ⟨pl2, af2, ⟨td2, th2, tp2, tt2⟩, ⟨sd2, sh2, sp2, st2⟩⟩⟩ := S
  obtain ⟨⟨hN, hKk, hOo⟩, hSz, hW, hU, h0, h1, h2, hR⟩ := h
  exact ck_hops l D τ ad N ar len K O sz bg en ln wd wh wp wt rg rs ib ch pl0 af0 td0 th0 tp0 tt0 sd0 sh0 sp0 st0 pl1 af1 td1 th1 tp1 tt1 sd1 sh1 sp1 st1 pl2 af2 td2 th2 tp2 tt2 sd2 sh2 sp2 st2 x0 x1 hN hKk hOo
set_option maxRecDepth 100000 in
set_option maxHeartbeats 4000000 in
theorem dm_hops (l : Launch) (D : va_G) (τ : Nat → ClassId) (md : Nat → Nat) (T : mT) (x0 : Int32) (x1 : Int32) (h : mOK T) : kMi l D τ yM_hops (kWs yM_hops cM_hops 3 (some .int)) { frames := 3, cells := 0, slots := 0, locals := 65 } [.ref (md 0), .int x0, .int x1] (wM τ md T) (gHops T x0 x1) (wM τ md (mTh T)) := by
  obtain ⟨⟨N, xc, sr⟩, ⟨xd, xh, xp, xt, xa⟩, ⟨vd, vh, vp, lst, fl, fh, fp⟩, ⟨K, mn, qp, qe⟩, ⟨th, ib, ch, rs, rg⟩⟩ := T
  obtain ⟨hN, hsr, hKk, hSz, hF, hU, hW, hR⟩ := h
  exact cm_hops l D τ md th N K ib ch rs xc sr xd xh xp xt xa vd vh vp lst fl fh fp mn qp qe rg x0 x1 hN hsr hKk
set_option maxRecDepth 100000 in
set_option maxHeartbeats 4000000 in
theorem dk_parent (l : Launch) (D : va_G) (τ : Nat → ClassId) (ad : Nat → Nat) (S : kSt) (x0 : Int32) (x1 : Int32) (h : kOK S) : kMi l D τ yK_parent (kWs yK_parent cK_parent 3 (some .int)) { frames := 1, cells := 0, slots := 0, locals := 21 } [.ref (ad 0), .int x0, .int x1] (wKP τ ad S) (fPar S x0 x1) (wKP τ ad S) := by
  obtain ⟨⟨N, ar, len⟩, ⟨K, O, sz, bg, en, ln⟩, ⟨wd, wh, wp, wt⟩, ⟨rg, rs⟩, ⟨ib, ch⟩, ⟨pl0, af0, ⟨td0, th0, tp0, tt0⟩, ⟨sd0, sh0, sp0, st0⟩⟩, ⟨pl1, af1, ⟨td1, th1, tp1, tt1⟩, ⟨sd1, sh1, sp1, st1⟩⟩, ⟨pl2, af2, ⟨td2, th2, tp2, tt2⟩, ⟨sd2, sh2, sp2, st2⟩⟩⟩ := S
  obtain ⟨⟨hN, hKk, hOo⟩, hSz, hW, hU, h0, h1, h2, hR⟩ := h
  exact ck_parent l D τ ad N ar len K O sz bg en ln wd wh wp wt rg rs ib ch pl0 af0 td0 th0 tp0 tt0 sd0 sh0 sp0 st0 pl1 af1 td1 th1 tp1 tt1 sd1 sh1 sp1 st1 pl2 af2 td2 th2 tp2 tt2 sd2 sh2 sp2 st2 x0 x1 hN hKk hOo
set_option maxRecDepth 100000 in
set_option maxHeartbeats 4000000 in
theorem dm_parent (l : Launch) (D : va_G) (τ : Nat → ClassId) (md : Nat → Nat) (T : mT) (x0 : Int32) (x1 : Int32) (h : mOK T) : kMi l D τ yM_parent (kWs yM_parent cM_parent 3 (some .int)) { frames := 3, cells := 0, slots := 0, locals := 65 } [.ref (md 0), .int x0, .int x1] (wM τ md T) (gPar T x0 x1) (wM τ md (mTh T)) := by
  obtain ⟨⟨N, xc, sr⟩, ⟨xd, xh, xp, xt, xa⟩, ⟨vd, vh, vp, lst, fl, fh, fp⟩, ⟨K, mn, qp, qe⟩, ⟨th, ib, ch, rs, rg⟩⟩ := T
  obtain ⟨hN, hsr, hKk, hSz, hF, hU, hW, hR⟩ := h
  exact cm_parent l D τ md th N K ib ch rs xc sr xd xh xp xt xa vd vh vp lst fl fh fp mn qp qe rg x0 x1 hN hsr hKk
set_option maxRecDepth 100000 in
set_option maxHeartbeats 4000000 in
theorem dk_way (l : Launch) (D : va_G) (τ : Nat → ClassId) (ad : Nat → Nat) (S : kSt) (x0 : Int32) (x1 : Int32) (x2 : Int32) (h : kOK S) : kMi l D τ yK_way (kWs yK_way cK_way 6 (some .int)) { frames := 1, cells := 0, slots := 0, locals := 24 } [.ref (ad 0), .int x0, .int x1, .int x2] (wKP τ ad S) (fWay S x0 x1 x2) (wKP τ ad S) := by
  obtain ⟨⟨N, ar, len⟩, ⟨K, O, sz, bg, en, ln⟩, ⟨wd, wh, wp, wt⟩, ⟨rg, rs⟩, ⟨ib, ch⟩, ⟨pl0, af0, ⟨td0, th0, tp0, tt0⟩, ⟨sd0, sh0, sp0, st0⟩⟩, ⟨pl1, af1, ⟨td1, th1, tp1, tt1⟩, ⟨sd1, sh1, sp1, st1⟩⟩, ⟨pl2, af2, ⟨td2, th2, tp2, tt2⟩, ⟨sd2, sh2, sp2, st2⟩⟩⟩ := S
  obtain ⟨⟨hN, hKk, hOo⟩, hSz, hW, hU, h0, h1, h2, hR⟩ := h
  exact ck_way l D τ ad N ar len K O sz bg en ln wd wh wp wt rg rs ib ch pl0 af0 td0 th0 tp0 tt0 sd0 sh0 sp0 st0 pl1 af1 td1 th1 tp1 tt1 sd1 sh1 sp1 st1 pl2 af2 td2 th2 tp2 tt2 sd2 sh2 sp2 st2 x0 x1 x2 hN hKk hOo h0 h1 h2
set_option maxRecDepth 100000 in
set_option maxHeartbeats 4000000 in
theorem dm_way (l : Launch) (D : va_G) (τ : Nat → ClassId) (md : Nat → Nat) (T : mT) (x0 : Int32) (x1 : Int32) (x2 : Int32) (h : mOK T) : kMi l D τ yM_way (kWs yM_way cM_way 7 (some .int)) { frames := 3, cells := 0, slots := 0, locals := 65 } [.ref (md 0), .int x0, .int x1, .int x2] (wM τ md T) (gWay T x0 x1 x2) (wM τ md (mTh T)) := by
  obtain ⟨⟨N, xc, sr⟩, ⟨xd, xh, xp, xt, xa⟩, ⟨vd, vh, vp, lst, fl, fh, fp⟩, ⟨K, mn, qp, qe⟩, ⟨th, ib, ch, rs, rg⟩⟩ := T
  obtain ⟨hN, hsr, hKk, hSz, hF, hU, hW, hR⟩ := h
  exact cm_way l D τ md th N K ib ch rs xc sr xd xh xp xt xa vd vh vp lst fl fh fp mn qp qe rg x0 x1 x2 hN hsr hKk hW
set_option maxRecDepth 100000 in
set_option maxHeartbeats 4000000 in
theorem dk_affected (l : Launch) (D : va_G) (τ : Nat → ClassId) (ad : Nat → Nat) (S : kSt) (x0 : Int32) (h : kOK S) : kMi l D τ yK_affected (kWs yK_affected cK_affected 2 (some .int)) { frames := 1, cells := 0, slots := 0, locals := 20 } [.ref (ad 0), .int x0] (wKP τ ad S) (fAff S x0) (wKP τ ad S) := by
  obtain ⟨⟨N, ar, len⟩, ⟨K, O, sz, bg, en, ln⟩, ⟨wd, wh, wp, wt⟩, ⟨rg, rs⟩, ⟨ib, ch⟩, ⟨pl0, af0, ⟨td0, th0, tp0, tt0⟩, ⟨sd0, sh0, sp0, st0⟩⟩, ⟨pl1, af1, ⟨td1, th1, tp1, tt1⟩, ⟨sd1, sh1, sp1, st1⟩⟩, ⟨pl2, af2, ⟨td2, th2, tp2, tt2⟩, ⟨sd2, sh2, sp2, st2⟩⟩⟩ := S
  obtain ⟨⟨hN, hKk, hOo⟩, hSz, hW, hU, h0, h1, h2, hR⟩ := h
  exact ck_affected l D τ ad N ar len K O sz bg en ln wd wh wp wt rg rs ib ch pl0 af0 td0 th0 tp0 tt0 sd0 sh0 sp0 st0 pl1 af1 td1 th1 tp1 tt1 sd1 sh1 sp1 st1 pl2 af2 td2 th2 tp2 tt2 sd2 sh2 sp2 st2 x0 hN hKk hOo
set_option maxRecDepth 100000 in
set_option maxHeartbeats 4000000 in
theorem dm_affected (l : Launch) (D : va_G) (τ : Nat → ClassId) (md : Nat → Nat) (T : mT) (x0 : Int32) (h : mOK T) : kMi l D τ yM_affected (kWs yM_affected cM_affected 2 (some .int)) { frames := 1, cells := 0, slots := 0, locals := 22 } [.ref (md 0), .int x0] (wM τ md T) (gAff T x0) (wM τ md (mTh T)) := by
  obtain ⟨⟨N, xc, sr⟩, ⟨xd, xh, xp, xt, xa⟩, ⟨vd, vh, vp, lst, fl, fh, fp⟩, ⟨K, mn, qp, qe⟩, ⟨th, ib, ch, rs, rg⟩⟩ := T
  obtain ⟨hN, hsr, hKk, hSz, hF, hU, hW, hR⟩ := h
  exact cm_affected l D τ md th N K ib ch rs xc sr xd xh xp xt xa vd vh vp lst fl fh fp mn qp qe rg x0 hN hsr hKk
set_option maxRecDepth 100000 in
set_option maxHeartbeats 4000000 in
theorem dk_tight (l : Launch) (D : va_G) (τ : Nat → ClassId) (ad : Nat → Nat) (S : kSt) (x0 : Int32) (h : kOK S) : kMi l D τ yK_tight (kWs yK_tight cK_tight 2 (some .int)) { frames := 1, cells := 0, slots := 0, locals := 20 } [.ref (ad 0), .int x0] (wKP τ ad S) (fTight S x0) (wKP τ ad S) := by
  obtain ⟨⟨N, ar, len⟩, ⟨K, O, sz, bg, en, ln⟩, ⟨wd, wh, wp, wt⟩, ⟨rg, rs⟩, ⟨ib, ch⟩, ⟨pl0, af0, ⟨td0, th0, tp0, tt0⟩, ⟨sd0, sh0, sp0, st0⟩⟩, ⟨pl1, af1, ⟨td1, th1, tp1, tt1⟩, ⟨sd1, sh1, sp1, st1⟩⟩, ⟨pl2, af2, ⟨td2, th2, tp2, tt2⟩, ⟨sd2, sh2, sp2, st2⟩⟩⟩ := S
  obtain ⟨⟨hN, hKk, hOo⟩, hSz, hW, hU, h0, h1, h2, hR⟩ := h
  exact ck_tight l D τ ad N ar len K O sz bg en ln wd wh wp wt rg rs ib ch pl0 af0 td0 th0 tp0 tt0 sd0 sh0 sp0 st0 pl1 af1 td1 th1 tp1 tt1 sd1 sh1 sp1 st1 pl2 af2 td2 th2 tp2 tt2 sd2 sh2 sp2 st2 x0 hN hKk hOo
set_option maxRecDepth 100000 in
set_option maxHeartbeats 4000000 in
theorem dm_tight (l : Launch) (D : va_G) (τ : Nat → ClassId) (md : Nat → Nat) (T : mT) (x0 : Int32) (h : mOK T) : kMi l D τ yM_tight (kWs yM_tight cM_tight 2 (some .int)) { frames := 1, cells := 0, slots := 0, locals := 22 } [.ref (md 0), .int x0] (wM τ md T) (gTight T x0) (wM τ md (mTh T)) := by
  obtain ⟨⟨N, xc, sr⟩, ⟨xd, xh, xp, xt, xa⟩, ⟨vd, vh, vp, lst, fl, fh, fp⟩, ⟨K, mn, qp, qe⟩, ⟨th, ib, ch, rs, rg⟩⟩ := T
  obtain ⟨hN, hsr, hKk, hSz, hF, hU, hW, hR⟩ := h
  exact cm_tight l D τ md th N K ib ch rs xc sr xd xh xp xt xa vd vh vp lst fl fh fp mn qp qe rg x0 hN hsr hKk
set_option maxRecDepth 100000 in
set_option maxHeartbeats 4000000 in
theorem dk_ring (l : Launch) (D : va_G) (τ : Nat → ClassId) (ad : Nat → Nat) (S : kSt) (x0 : Int32) (h : kOK S) : kMi l D τ yK_ring (kWs yK_ring cK_ring 2 (some .int)) { frames := 0, cells := 0, slots := 0, locals := 0 } [.ref (ad 0), .int x0] (wKP τ ad S) (fRing S x0) (wKP τ ad S) := by
  obtain ⟨⟨N, ar, len⟩, ⟨K, O, sz, bg, en, ln⟩, ⟨wd, wh, wp, wt⟩, ⟨rg, rs⟩, ⟨ib, ch⟩, ⟨pl0, af0, ⟨td0, th0, tp0, tt0⟩, ⟨sd0, sh0, sp0, st0⟩⟩, ⟨pl1, af1, ⟨td1, th1, tp1, tt1⟩, ⟨sd1, sh1, sp1, st1⟩⟩, ⟨pl2, af2, ⟨td2, th2, tp2, tt2⟩, ⟨sd2, sh2, sp2, st2⟩⟩⟩ := S
  obtain ⟨⟨hN, hKk, hOo⟩, hSz, hW, hU, h0, h1, h2, hR⟩ := h
  exact ck_ringq l D τ ad N ar len K O sz bg en ln wd wh wp wt rg rs ib ch pl0 af0 td0 th0 tp0 tt0 sd0 sh0 sp0 st0 pl1 af1 td1 th1 tp1 tt1 sd1 sh1 sp1 st1 pl2 af2 td2 th2 tp2 tt2 sd2 sh2 sp2 st2 x0 hN hKk hOo hR
set_option maxRecDepth 100000 in
set_option maxHeartbeats 4000000 in
theorem dm_ring (l : Launch) (D : va_G) (τ : Nat → ClassId) (md : Nat → Nat) (T : mT) (x0 : Int32) (h : mOK T) : kMi l D τ yM_ring (kWs yM_ring cM_ring 2 (some .int)) { frames := 1, cells := 0, slots := 0, locals := 22 } [.ref (md 0), .int x0] (wM τ md T) (gRing T x0) (wM τ md (mTh T)) := by
  obtain ⟨⟨N, xc, sr⟩, ⟨xd, xh, xp, xt, xa⟩, ⟨vd, vh, vp, lst, fl, fh, fp⟩, ⟨K, mn, qp, qe⟩, ⟨th, ib, ch, rs, rg⟩⟩ := T
  obtain ⟨hN, hsr, hKk, hSz, hF, hU, hW, hR⟩ := h
  exact cm_ringq l D τ md th N K ib ch rs xc sr xd xh xp xt xa vd vh vp lst fl fh fp mn qp qe rg x0 hN hsr hKk hR
set_option maxRecDepth 100000 in
set_option maxHeartbeats 4000000 in
theorem dk_count (l : Launch) (D : va_G) (τ : Nat → ClassId) (ad : Nat → Nat) (S : kSt) (x0 : Int32) (h : kOK S) : kMi l D τ yK_count (kWs yK_count cK_count 2 (some .int)) { frames := 2, cells := 0, slots := 0, locals := 40 } [.ref (ad 0), .int x0] (wKP τ ad S) (fCount S x0) (wKP τ ad S) := by
  obtain ⟨⟨N, ar, len⟩, ⟨K, O, sz, bg, en, ln⟩, ⟨wd, wh, wp, wt⟩, ⟨rg, rs⟩, ⟨ib, ch⟩, ⟨pl0, af0, ⟨td0, th0, tp0, tt0⟩, ⟨sd0, sh0, sp0, st0⟩⟩, ⟨pl1, af1, ⟨td1, th1, tp1, tt1⟩, ⟨sd1, sh1, sp1, st1⟩⟩, ⟨pl2, af2, ⟨td2, th2, tp2, tt2⟩, ⟨sd2, sh2, sp2, st2⟩⟩⟩ := S
  obtain ⟨⟨hN, hKk, hOo⟩, hSz, hW, hU, h0, h1, h2, hR⟩ := h
  exact ck_count l D τ ad N ar len K O sz bg en ln wd wh wp wt rg rs ib ch pl0 af0 td0 th0 tp0 tt0 sd0 sh0 sp0 st0 pl1 af1 td1 th1 tp1 tt1 sd1 sh1 sp1 st1 pl2 af2 td2 th2 tp2 tt2 sd2 sh2 sp2 st2 x0 hN hKk hOo
set_option maxRecDepth 100000 in
set_option maxHeartbeats 4000000 in
theorem dm_count (l : Launch) (D : va_G) (τ : Nat → ClassId) (md : Nat → Nat) (T : mT) (x0 : Int32) (h : mOK T) : kMi l D τ yM_count1 (kWs yM_count1 cM_count1 4 (some .int)) { frames := 0, cells := 0, slots := 0, locals := 0 } [.ref (md 0), .int x0] (wM τ md T) (gCount T x0) (wM τ md (mTh T)) := by
  obtain ⟨⟨N, xc, sr⟩, ⟨xd, xh, xp, xt, xa⟩, ⟨vd, vh, vp, lst, fl, fh, fp⟩, ⟨K, mn, qp, qe⟩, ⟨th, ib, ch, rs, rg⟩⟩ := T
  obtain ⟨hN, hsr, hKk, hSz, hF, hU, hW, hR⟩ := h
  exact cm_countq l D τ md th N K ib ch rs xc sr xd xh xp xt xa vd vh vp lst fl fh fp mn qp qe rg x0 hN hsr hKk
def kS0 : kSt := ((0, 0, kNo), (0, 0, fun _ => 0, fun _ => 0, fun _ => 0, fun _ => 0), (kNo, kNo, kNo, 0), (fun _ => 0, 0), (0, 0), ((-1), 0, (kNo, kNo, kNo, 0), (kNo, kNo, kNo, 0)), ((-1), 0, (kNo, kNo, kNo, 0), (kNo, kNo, kNo, 0)), ((-1), 0, (kNo, kNo, kNo, 0), (kNo, kNo, kNo, 0)))
noncomputable def mT0 : mT := mSet ((0, fun _ => 1000000, fun _ => (-1)), (fun _ => 0, fun _ => 0, fun _ => 0, fun _ => 0, fun _ => 0), (fun _ => 0, fun _ => 0, fun _ => 0, fun _ => 0, fun _ => 0, fun _ => 0, fun _ => 0), (0, fun _ => 0, fun _ => 0, fun _ => 0), (0, 0, 0, 0, fun _ => 0))
/-- class and reference answer alike, call by call -/
def kSim (R : kSt → mT → Prop) : Prop := (∀ S T, R S T → kOK S ∧ mOK T) ∧
  R kS0 mT0 ∧
  (∀ S T, R S T → R S (mTh T)) ∧
  (∀ (S : kSt) (T : mT), R S T → (fNode S).1 = (gNode T).1 ∧ R (fNode S).2.2 (gNode T).2) ∧
  (∀ (S : kSt) (T : mT) (x0 x1 : Int32), R S T → (fSource S x0 x1).1 = (gSource T x0 x1).1 ∧ R (fSource S x0 x1).2.2 (gSource T x0 x1).2) ∧
  (∀ (S : kSt) (T : mT) (x0 x1 x2 : Int32), R S T → (fPut S x0 x1 x2).1 = (gPut T x0 x1 x2).1 ∧ R (fPut S x0 x1 x2).2.2 (gPut T x0 x1 x2).2) ∧
  (∀ (S : kSt) (T : mT) (x0 x1 : Int32), R S T → (fTake S x0 x1).1 = (gTake T x0 x1).1 ∧ R (fTake S x0 x1).2.2 (gTake T x0 x1).2) ∧
  (∀ (S : kSt) (T : mT) (x0 x1 : Int32), R S T → fArc S x0 x1 = gArc T x0 x1) ∧
  (∀ (S : kSt) (T : mT), R S T → (fBegin S).1 = (gBegin T).1 ∧ R (fBegin S).2.2 (gBegin T).2) ∧
  (∀ (S : kSt) (T : mT), R S T → (fEnd S).1 = (gEnd T).1 ∧ R (fEnd S).2.2 (gEnd T).2) ∧
  (∀ (S : kSt) (T : mT), R S T → (fUndo S).1 = (gUndo T).1 ∧ R (fUndo S).2.2 (gUndo T).2) ∧
  (∀ (S : kSt) (T : mT) (x0 x1 : Int32), R S T → fDist S x0 x1 = gDist T x0 x1) ∧
  (∀ (S : kSt) (T : mT) (x0 x1 : Int32), R S T → fHops S x0 x1 = gHops T x0 x1) ∧
  (∀ (S : kSt) (T : mT) (x0 x1 : Int32), R S T → fPar S x0 x1 = gPar T x0 x1) ∧
  (∀ (S : kSt) (T : mT) (x0 x1 x2 : Int32), R S T → fWay S x0 x1 x2 = gWay T x0 x1 x2) ∧
  (∀ (S : kSt) (T : mT) (x0 : Int32), R S T → fAff S x0 = gAff T x0) ∧
  (∀ (S : kSt) (T : mT) (x0 : Int32), R S T → fTight S x0 = gTight T x0) ∧
  (∀ (S : kSt) (T : mT) (x0 : Int32), R S T → fRing S x0 = gRing T x0) ∧
  (∀ (S : kSt) (T : mT) (x0 : Int32), R S T → fCount S x0 = gCount T x0)
