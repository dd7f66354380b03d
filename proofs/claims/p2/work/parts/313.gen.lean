set_option maxRecDepth 100000 in
def KI (l : Launch) (dC : Nat → ClassId) (dI : Nat → Nat → Nat) (nd : Nat) : Prop := ∀ (h0 : Nat) (p0 : Int32) (p1 : Int32) (dp : Int32) (jb : Nat) (qm : Nat) (mc : Int32) (qh : Nat) (qk : Nat) (qf : Nat) (bg : Int32) (jp : Nat) (km : ClassId) (fm : Nat → Int32) (kh : ClassId) (fh : Nat → Int32) (kk : ClassId) (fo : Nat → Option Nat) (ro0 : Nat) (kr0 : ClassId) (fr0 : Nat → Int32) (ro1 : Nat) (kr1 : ClassId) (fr1 : Nat → Int32) (ro2 : Nat) (kr2 : ClassId) (fr2 : Nat → Int32) (ro3 : Nat) (kr3 : ClassId) (fr3 : Nat → Int32) (ro4 : Nat) (kr4 : ClassId) (fr4 : Nat → Int32) (ro5 : Nat) (kr5 : ClassId) (fr5 : Nat → Int32) (ro6 : Nat) (kr6 : ClassId) (fr6 : Nat → Int32) (ro7 : Nat) (kr7 : ClassId) (fr7 : Nat → Int32) (ro8 : Nat) (kr8 : ClassId) (fr8 : Nat → Int32) (kf : ClassId) (ff : Nat → Int64) (aq0 : Nat) (aq1 : Nat) (aq2 : Nat) (aq3 : Nat) (aq4 : Nat) (aq5 : Nat) (aq6 : Nat) (aacc : Int32) (afees : Int64) (amis : Int32) (abel : Int32) (aref : Int32) (acau : Int32) (ak0 : ClassId) (ag0 : Nat → Int32) (ak1 : ClassId) (ag1 : Nat → Int32) (ak2 : ClassId) (ag2 : Nat → Int32) (ak3 : ClassId) (ag3 : Nat → Int32) (ak4 : ClassId) (ag4 : Nat → Int32) (ak5 : ClassId) (ag5 : Nat → Int32) (ak6 : ClassId) (ag6 : Nat → Int32) (pb : Nat) (pn : Nat) (ps : Int32) (kpb : ClassId) (fpb : Nat → Int32) (kpn : ClassId) (fpn : Nat → Int32) (sz : Nat) (ra1 : 0 ≤ aacc.toInt) (ra2 : aacc.toInt ≤ 8) (hp1 : 0 ≤ ps.toInt) (hp2 : ps.toInt ≤ 80) (hb0 : ∀ k : Nat, 0 ≤ (fpn k).toInt ∧ (fpn k).toInt ≤ 80) (hf0 : fo 0 = some ro0) (hf1 : fo 1 = some ro1) (hf2 : fo 2 = some ro2) (hf3 : fo 3 = some ro3) (hf4 : fo 4 = some ro4) (hf5 : fo 5 = some ro5) (hf6 : fo 6 = some ro6) (hf7 : fo 7 = some ro7) (hf8 : fo 8 = some ro8) (rb1 : 0 ≤ bg.toInt) (rb2 : bg.toInt ≤ 500) (rb3 : 0 ≤ mc.toInt) (rb4 : mc.toInt + 2 * (500 - bg.toInt) ≤ 1100) (pl1 : 0 ≤ p0.toInt) (pl2 : p0.toInt ≤ 95) (pl3 : p1.toInt ≤ 80) (hd0 : 0 ≤ dp.toInt) (hdn : dp.toInt + (nd : Int) = 8), Met l yX6_items wsX6_items ({ frames := 10 * nd + 10, cells := 0, slots := 0, locals := 200 * nd + 200 }) (va_Pc [.ref h0, .int p0, .int p1, .int dp] (fun U => U.heap.size = sz ∧ va_P (dC, dI) vwCl [eO h0 5 [.ref jb, .ref qm, .int mc, .ref qh, .ref qk, .ref qf, .int bg, .ref jp], eI qm km 60 fm, eI qh kh 8 fh, eR qk kk 9 fo, eI ro0 kr0 8 fr0, eI ro1 kr1 8 fr1, eI ro2 kr2 8 fr2, eI ro3 kr3 8 fr3, eI ro4 kr4 8 fr4, eI ro5 kr5 8 fr5, eI ro6 kr6 8 fr6, eI ro7 kr7 8 fr7, eI ro8 kr8 8 fr8, eL qf kf 9 ff, eO jb 0 [.ref aq0, .ref aq1, .ref aq2, .ref aq3, .ref aq4, .ref aq5, .ref aq6, .int aacc, .long afees, .int amis, .int abel, .int aref, .int acau], eI aq0 ak0 8 ag0, eI aq1 ak1 8 ag1, eI aq2 ak2 8 ag2, eI aq3 ak3 8 ag3, eI aq4 ak4 8 ag4, eI aq5 ak5 8 ag5, eI aq6 ak6 8 ag6, eO jp 2 [.ref pb, .ref pn, .int ps], eI pb kpb 80 fpb, eI pn kpn 80 fpn] U.heap ∧ va_K (dC, dI) vwCl [(km, .int), (kh, .int), (kk, .array .int), (kr0, .int), (kr1, .int), (kr2, .int), (kr3, .int), (kr4, .int), (kr5, .int), (kr6, .int), (kr7, .int), (kr8, .int), (kf, .long), (ak0, .int), (ak1, .int), (ak2, .int), (ak3, .boolean), (ak4, .int), (ak5, .int), (ak6, .int), (kpb, .int), (kpn, .int)] U ∧ va_D (fun _ => True) [eO h0 5 [.ref jb, .ref qm, .int mc, .ref qh, .ref qk, .ref qf, .int bg, .ref jp], eI qm km 60 fm, eI qh kh 8 fh, eR qk kk 9 fo, eI ro0 kr0 8 fr0, eI ro1 kr1 8 fr1, eI ro2 kr2 8 fr2, eI ro3 kr3 8 fr3, eI ro4 kr4 8 fr4, eI ro5 kr5 8 fr5, eI ro6 kr6 8 fr6, eI ro7 kr7 8 fr7, eI ro8 kr8 8 fr8, eL qf kf 9 ff, eO jb 0 [.ref aq0, .ref aq1, .ref aq2, .ref aq3, .ref aq4, .ref aq5, .ref aq6, .int aacc, .long afees, .int amis, .int abel, .int aref, .int acau], eI aq0 ak0 8 ag0, eI aq1 ak1 8 ag1, eI aq2 ak2 8 ag2, eI aq3 ak3 8 ag3, eI aq4 ak4 8 ag4, eI aq5 ak5 8 ag5, eI aq6 ak6 8 ag6, eO jp 2 [.ref pb, .ref pn, .int ps], eI pb kpb 80 fpb, eI pn kpn 80 fpn])) (va_Qi (fun (r : Int32) (_ : Unit) => True) (fun (_ : Unit) (t : State) => ∃ (fm' : Nat → Int32), ∃ (fh' : Nat → Int32), ∃ (fr0' : Nat → Int32), ∃ (fr1' : Nat → Int32), ∃ (fr2' : Nat → Int32), ∃ (fr3' : Nat → Int32), ∃ (fr4' : Nat → Int32), ∃ (fr5' : Nat → Int32), ∃ (fr6' : Nat → Int32), ∃ (fr7' : Nat → Int32), ∃ (fr8' : Nat → Int32), ∃ (ff' : Nat → Int64), ∃ (mc' : Int32), ∃ (bg' : Int32), ∃ (ag1' : Nat → Int32), ∃ (ag4' : Nat → Int32), ∃ (ag5' : Nat → Int32), ∃ (ag6' : Nat → Int32), ∃ (afees' : Int64), ∃ (amis' : Int32), ∃ (abel' : Int32), ∃ (aref' : Int32), ∃ (acau' : Int32), (bg.toInt ≤ bg'.toInt) ∧ (bg'.toInt ≤ 500) ∧ (0 ≤ mc'.toInt) ∧ (mc'.toInt + 2 * (500 - bg'.toInt) ≤ mc.toInt + 2 * (500 - bg.toInt) + 0) ∧ va_P (dC, dI) vwCl [eO h0 5 [.ref jb, .ref qm, .int mc', .ref qh, .ref qk, .ref qf, .int bg', .ref jp], eI qm km 60 (fm'), eI qh kh 8 (fh'), eR qk kk 9 fo, eI ro0 kr0 8 (fr0'), eI ro1 kr1 8 (fr1'), eI ro2 kr2 8 (fr2'), eI ro3 kr3 8 (fr3'), eI ro4 kr4 8 (fr4'), eI ro5 kr5 8 (fr5'), eI ro6 kr6 8 (fr6'), eI ro7 kr7 8 (fr7'), eI ro8 kr8 8 (fr8'), eL qf kf 9 (ff'), eO jb 0 [.ref aq0, .ref aq1, .ref aq2, .ref aq3, .ref aq4, .ref aq5, .ref aq6, .int aacc, .long afees', .int amis', .int abel', .int aref', .int acau'], eI aq0 ak0 8 ag0, eI aq1 ak1 8 (ag1'), eI aq2 ak2 8 ag2, eI aq3 ak3 8 ag3, eI aq4 ak4 8 (ag4'), eI aq5 ak5 8 (ag5'), eI aq6 ak6 8 (ag6'), eO jp 2 [.ref pb, .ref pn, .int ps], eI pb kpb 80 fpb, eI pn kpn 80 fpn] t.heap ∧ va_K (dC, dI) vwCl [(km, .int), (kh, .int), (kk, .array .int), (kr0, .int), (kr1, .int), (kr2, .int), (kr3, .int), (kr4, .int), (kr5, .int), (kr6, .int), (kr7, .int), (kr8, .int), (kf, .long), (ak0, .int), (ak1, .int), (ak2, .int), (ak3, .boolean), (ak4, .int), (ak5, .int), (ak6, .int), (kpb, .int), (kpn, .int)] t ∧ va_D (va_A [eO h0 5 [.ref jb, .ref qm, .int mc, .ref qh, .ref qk, .ref qf, .int bg, .ref jp], eI qm km 60 fm, eI qh kh 8 fh, eR qk kk 9 fo, eI ro0 kr0 8 fr0, eI ro1 kr1 8 fr1, eI ro2 kr2 8 fr2, eI ro3 kr3 8 fr3, eI ro4 kr4 8 fr4, eI ro5 kr5 8 fr5, eI ro6 kr6 8 fr6, eI ro7 kr7 8 fr7, eI ro8 kr8 8 fr8, eL qf kf 9 ff, eO jb 0 [.ref aq0, .ref aq1, .ref aq2, .ref aq3, .ref aq4, .ref aq5, .ref aq6, .int aacc, .long afees, .int amis, .int abel, .int aref, .int acau], eI aq0 ak0 8 ag0, eI aq1 ak1 8 ag1, eI aq2 ak2 8 ag2, eI aq3 ak3 8 ag3, eI aq4 ak4 8 ag4, eI aq5 ak5 8 ag5, eI aq6 ak6 8 ag6, eO jp 2 [.ref pb, .ref pn, .int ps], eI pb kpb 80 fpb, eI pn kpn 80 fpn] sz) [eO h0 5 [.ref jb, .ref qm, .int mc', .ref qh, .ref qk, .ref qf, .int bg', .ref jp], eI qm km 60 (fm'), eI qh kh 8 (fh'), eR qk kk 9 fo, eI ro0 kr0 8 (fr0'), eI ro1 kr1 8 (fr1'), eI ro2 kr2 8 (fr2'), eI ro3 kr3 8 (fr3'), eI ro4 kr4 8 (fr4'), eI ro5 kr5 8 (fr5'), eI ro6 kr6 8 (fr6'), eI ro7 kr7 8 (fr7'), eI ro8 kr8 8 (fr8'), eL qf kf 9 (ff'), eO jb 0 [.ref aq0, .ref aq1, .ref aq2, .ref aq3, .ref aq4, .ref aq5, .ref aq6, .int aacc, .long afees', .int amis', .int abel', .int aref', .int acau'], eI aq0 ak0 8 ag0, eI aq1 ak1 8 (ag1'), eI aq2 ak2 8 ag2, eI aq3 ak3 8 ag3, eI aq4 ak4 8 (ag4'), eI aq5 ak5 8 (ag5'), eI aq6 ak6 8 (ag6'), eO jp 2 [.ref pb, .ref pn, .int ps], eI pb kpb 80 fpb, eI pn kpn 80 fpn]) (va_A [eO h0 5 [.ref jb, .ref qm, .int mc, .ref qh, .ref qk, .ref qf, .int bg, .ref jp], eI qm km 60 fm, eI qh kh 8 fh, eR qk kk 9 fo, eI ro0 kr0 8 fr0, eI ro1 kr1 8 fr1, eI ro2 kr2 8 fr2, eI ro3 kr3 8 fr3, eI ro4 kr4 8 fr4, eI ro5 kr5 8 fr5, eI ro6 kr6 8 fr6, eI ro7 kr7 8 fr7, eI ro8 kr8 8 fr8, eL qf kf 9 ff, eO jb 0 [.ref aq0, .ref aq1, .ref aq2, .ref aq3, .ref aq4, .ref aq5, .ref aq6, .int aacc, .long afees, .int amis, .int abel, .int aref, .int acau], eI aq0 ak0 8 ag0, eI aq1 ak1 8 ag1, eI aq2 ak2 8 ag2, eI aq3 ak3 8 ag3, eI aq4 ak4 8 ag4, eI aq5 ak5 8 ag5, eI aq6 ak6 8 ag6, eO jp 2 [.ref pb, .ref pn, .int ps], eI pb kpb 80 fpb, eI pn kpn 80 fpn] sz)) 0 0 (va_A [eO h0 5 [.ref jb, .ref qm, .int mc, .ref qh, .ref qk, .ref qf, .int bg, .ref jp], eI qm km 60 fm, eI qh kh 8 fh, eR qk kk 9 fo, eI ro0 kr0 8 fr0, eI ro1 kr1 8 fr1, eI ro2 kr2 8 fr2, eI ro3 kr3 8 fr3, eI ro4 kr4 8 fr4, eI ro5 kr5 8 fr5, eI ro6 kr6 8 fr6, eI ro7 kr7 8 fr7, eI ro8 kr8 8 fr8, eL qf kf 9 ff, eO jb 0 [.ref aq0, .ref aq1, .ref aq2, .ref aq3, .ref aq4, .ref aq5, .ref aq6, .int aacc, .long afees, .int amis, .int abel, .int aref, .int acau], eI aq0 ak0 8 ag0, eI aq1 ak1 8 ag1, eI aq2 ak2 8 ag2, eI aq3 ak3 8 ag3, eI aq4 ak4 8 ag4, eI aq5 ak5 8 ag5, eI aq6 ak6 8 ag6, eO jp 2 [.ref pb, .ref pn, .int ps], eI pb kpb 80 fpb, eI pn kpn 80 fpn] sz)

set_option maxRecDepth 100000 in
set_option maxHeartbeats 4000000 in
/-- Runner.inside -/
theorem c_X6_inside (l : Launch) (dC : Nat → ClassId) (dI : Nat → Nat → Nat) (h0 : Nat) (p0 : Int32) (p1 : Int32) (dp : Int32) (jb : Nat) (qm : Nat) (mc : Int32) (qh : Nat) (qk : Nat) (qf : Nat) (bg : Int32) (jp : Nat) (km : ClassId) (fm : Nat → Int32) (kh : ClassId) (fh : Nat → Int32) (kk : ClassId) (fo : Nat → Option Nat) (ro0 : Nat) (kr0 : ClassId) (fr0 : Nat → Int32) (ro1 : Nat) (kr1 : ClassId) (fr1 : Nat → Int32) (ro2 : Nat) (kr2 : ClassId) (fr2 : Nat → Int32) (ro3 : Nat) (kr3 : ClassId) (fr3 : Nat → Int32) (ro4 : Nat) (kr4 : ClassId) (fr4 : Nat → Int32) (ro5 : Nat) (kr5 : ClassId) (fr5 : Nat → Int32) (ro6 : Nat) (kr6 : ClassId) (fr6 : Nat → Int32) (ro7 : Nat) (kr7 : ClassId) (fr7 : Nat → Int32) (ro8 : Nat) (kr8 : ClassId) (fr8 : Nat → Int32) (kf : ClassId) (ff : Nat → Int64) (aq0 : Nat) (aq1 : Nat) (aq2 : Nat) (aq3 : Nat) (aq4 : Nat) (aq5 : Nat) (aq6 : Nat) (aacc : Int32) (afees : Int64) (amis : Int32) (abel : Int32) (aref : Int32) (acau : Int32) (ak0 : ClassId) (ag0 : Nat → Int32) (ak1 : ClassId) (ag1 : Nat → Int32) (ak2 : ClassId) (ag2 : Nat → Int32) (ak3 : ClassId) (ag3 : Nat → Int32) (ak4 : ClassId) (ag4 : Nat → Int32) (ak5 : ClassId) (ag5 : Nat → Int32) (ak6 : ClassId) (ag6 : Nat → Int32) (pb : Nat) (pn : Nat) (ps : Int32) (kpb : ClassId) (fpb : Nat → Int32) (kpn : ClassId) (fpn : Nat → Int32) (nd : Nat) (sz : Nat) (ra1 : 0 ≤ aacc.toInt) (ra2 : aacc.toInt ≤ 8) (hp1 : 0 ≤ ps.toInt) (hp2 : ps.toInt ≤ 80) (hb0 : ∀ k : Nat, 0 ≤ (fpn k).toInt ∧ (fpn k).toInt ≤ 80) (hf0 : fo 0 = some ro0) (hf1 : fo 1 = some ro1) (hf2 : fo 2 = some ro2) (hf3 : fo 3 = some ro3) (hf4 : fo 4 = some ro4) (hf5 : fo 5 = some ro5) (hf6 : fo 6 = some ro6) (hf7 : fo 7 = some ro7) (hf8 : fo 8 = some ro8) (rb1 : 0 ≤ bg.toInt) (rb2 : bg.toInt ≤ 500) (rb3 : 0 ≤ mc.toInt) (rb4 : mc.toInt + 2 * (500 - bg.toInt) ≤ 1100) (pl1 : 0 ≤ p0.toInt) (pl2 : p0.toInt ≤ 90) (pl3 : 0 ≤ p1.toInt) (pl4 : p1.toInt ≤ 95) (hd0 : 0 ≤ dp.toInt) (hdn : dp.toInt + (nd : Int) = 8) (ih : ∀ m : Nat, m + 1 = nd → KI l dC dI m) : Met l yX6_inside wsX6_inside ({ frames := 10 * nd + 7, cells := 0, slots := 0, locals := 200 * nd + 80 }) (va_Pc [.ref h0, .int p0, .int p1, .int dp] (fun U => U.heap.size = sz ∧ va_P (dC, dI) vwCl [eO h0 5 [.ref jb, .ref qm, .int mc, .ref qh, .ref qk, .ref qf, .int bg, .ref jp], eI qm km 60 fm, eI qh kh 8 fh, eR qk kk 9 fo, eI ro0 kr0 8 fr0, eI ro1 kr1 8 fr1, eI ro2 kr2 8 fr2, eI ro3 kr3 8 fr3, eI ro4 kr4 8 fr4, eI ro5 kr5 8 fr5, eI ro6 kr6 8 fr6, eI ro7 kr7 8 fr7, eI ro8 kr8 8 fr8, eL qf kf 9 ff, eO jb 0 [.ref aq0, .ref aq1, .ref aq2, .ref aq3, .ref aq4, .ref aq5, .ref aq6, .int aacc, .long afees, .int amis, .int abel, .int aref, .int acau], eI aq0 ak0 8 ag0, eI aq1 ak1 8 ag1, eI aq2 ak2 8 ag2, eI aq3 ak3 8 ag3, eI aq4 ak4 8 ag4, eI aq5 ak5 8 ag5, eI aq6 ak6 8 ag6, eO jp 2 [.ref pb, .ref pn, .int ps], eI pb kpb 80 fpb, eI pn kpn 80 fpn] U.heap ∧ va_K (dC, dI) vwCl [(km, .int), (kh, .int), (kk, .array .int), (kr0, .int), (kr1, .int), (kr2, .int), (kr3, .int), (kr4, .int), (kr5, .int), (kr6, .int), (kr7, .int), (kr8, .int), (kf, .long), (ak0, .int), (ak1, .int), (ak2, .int), (ak3, .boolean), (ak4, .int), (ak5, .int), (ak6, .int), (kpb, .int), (kpn, .int)] U ∧ va_D (fun _ => True) [eO h0 5 [.ref jb, .ref qm, .int mc, .ref qh, .ref qk, .ref qf, .int bg, .ref jp], eI qm km 60 fm, eI qh kh 8 fh, eR qk kk 9 fo, eI ro0 kr0 8 fr0, eI ro1 kr1 8 fr1, eI ro2 kr2 8 fr2, eI ro3 kr3 8 fr3, eI ro4 kr4 8 fr4, eI ro5 kr5 8 fr5, eI ro6 kr6 8 fr6, eI ro7 kr7 8 fr7, eI ro8 kr8 8 fr8, eL qf kf 9 ff, eO jb 0 [.ref aq0, .ref aq1, .ref aq2, .ref aq3, .ref aq4, .ref aq5, .ref aq6, .int aacc, .long afees, .int amis, .int abel, .int aref, .int acau], eI aq0 ak0 8 ag0, eI aq1 ak1 8 ag1, eI aq2 ak2 8 ag2, eI aq3 ak3 8 ag3, eI aq4 ak4 8 ag4, eI aq5 ak5 8 ag5, eI aq6 ak6 8 ag6, eO jp 2 [.ref pb, .ref pn, .int ps], eI pb kpb 80 fpb, eI pn kpn 80 fpn])) (va_Qi (fun (r : Int32) (_ : Unit) => True) (fun (_ : Unit) (t : State) => ∃ (fm' : Nat → Int32), ∃ (fh' : Nat → Int32), ∃ (fr0' : Nat → Int32), ∃ (fr1' : Nat → Int32), ∃ (fr2' : Nat → Int32), ∃ (fr3' : Nat → Int32), ∃ (fr4' : Nat → Int32), ∃ (fr5' : Nat → Int32), ∃ (fr6' : Nat → Int32), ∃ (fr7' : Nat → Int32), ∃ (fr8' : Nat → Int32), ∃ (ff' : Nat → Int64), ∃ (mc' : Int32), ∃ (bg' : Int32), ∃ (ag1' : Nat → Int32), ∃ (ag4' : Nat → Int32), ∃ (ag5' : Nat → Int32), ∃ (ag6' : Nat → Int32), ∃ (afees' : Int64), ∃ (amis' : Int32), ∃ (abel' : Int32), ∃ (aref' : Int32), ∃ (acau' : Int32), (bg.toInt ≤ bg'.toInt) ∧ (bg'.toInt ≤ 500) ∧ (0 ≤ mc'.toInt) ∧ (mc'.toInt + 2 * (500 - bg'.toInt) ≤ mc.toInt + 2 * (500 - bg.toInt) + 0) ∧ va_P (dC, dI) vwCl [eO h0 5 [.ref jb, .ref qm, .int mc', .ref qh, .ref qk, .ref qf, .int bg', .ref jp], eI qm km 60 (fm'), eI qh kh 8 (fh'), eR qk kk 9 fo, eI ro0 kr0 8 (fr0'), eI ro1 kr1 8 (fr1'), eI ro2 kr2 8 (fr2'), eI ro3 kr3 8 (fr3'), eI ro4 kr4 8 (fr4'), eI ro5 kr5 8 (fr5'), eI ro6 kr6 8 (fr6'), eI ro7 kr7 8 (fr7'), eI ro8 kr8 8 (fr8'), eL qf kf 9 (ff'), eO jb 0 [.ref aq0, .ref aq1, .ref aq2, .ref aq3, .ref aq4, .ref aq5, .ref aq6, .int aacc, .long afees', .int amis', .int abel', .int aref', .int acau'], eI aq0 ak0 8 ag0, eI aq1 ak1 8 (ag1'), eI aq2 ak2 8 ag2, eI aq3 ak3 8 ag3, eI aq4 ak4 8 (ag4'), eI aq5 ak5 8 (ag5'), eI aq6 ak6 8 (ag6'), eO jp 2 [.ref pb, .ref pn, .int ps], eI pb kpb 80 fpb, eI pn kpn 80 fpn] t.heap ∧ va_K (dC, dI) vwCl [(km, .int), (kh, .int), (kk, .array .int), (kr0, .int), (kr1, .int), (kr2, .int), (kr3, .int), (kr4, .int), (kr5, .int), (kr6, .int), (kr7, .int), (kr8, .int), (kf, .long), (ak0, .int), (ak1, .int), (ak2, .int), (ak3, .boolean), (ak4, .int), (ak5, .int), (ak6, .int), (kpb, .int), (kpn, .int)] t ∧ va_D (va_A [eO h0 5 [.ref jb, .ref qm, .int mc, .ref qh, .ref qk, .ref qf, .int bg, .ref jp], eI qm km 60 fm, eI qh kh 8 fh, eR qk kk 9 fo, eI ro0 kr0 8 fr0, eI ro1 kr1 8 fr1, eI ro2 kr2 8 fr2, eI ro3 kr3 8 fr3, eI ro4 kr4 8 fr4, eI ro5 kr5 8 fr5, eI ro6 kr6 8 fr6, eI ro7 kr7 8 fr7, eI ro8 kr8 8 fr8, eL qf kf 9 ff, eO jb 0 [.ref aq0, .ref aq1, .ref aq2, .ref aq3, .ref aq4, .ref aq5, .ref aq6, .int aacc, .long afees, .int amis, .int abel, .int aref, .int acau], eI aq0 ak0 8 ag0, eI aq1 ak1 8 ag1, eI aq2 ak2 8 ag2, eI aq3 ak3 8 ag3, eI aq4 ak4 8 ag4, eI aq5 ak5 8 ag5, eI aq6 ak6 8 ag6, eO jp 2 [.ref pb, .ref pn, .int ps], eI pb kpb 80 fpb, eI pn kpn 80 fpn] sz) [eO h0 5 [.ref jb, .ref qm, .int mc', .ref qh, .ref qk, .ref qf, .int bg', .ref jp], eI qm km 60 (fm'), eI qh kh 8 (fh'), eR qk kk 9 fo, eI ro0 kr0 8 (fr0'), eI ro1 kr1 8 (fr1'), eI ro2 kr2 8 (fr2'), eI ro3 kr3 8 (fr3'), eI ro4 kr4 8 (fr4'), eI ro5 kr5 8 (fr5'), eI ro6 kr6 8 (fr6'), eI ro7 kr7 8 (fr7'), eI ro8 kr8 8 (fr8'), eL qf kf 9 (ff'), eO jb 0 [.ref aq0, .ref aq1, .ref aq2, .ref aq3, .ref aq4, .ref aq5, .ref aq6, .int aacc, .long afees', .int amis', .int abel', .int aref', .int acau'], eI aq0 ak0 8 ag0, eI aq1 ak1 8 (ag1'), eI aq2 ak2 8 ag2, eI aq3 ak3 8 ag3, eI aq4 ak4 8 (ag4'), eI aq5 ak5 8 (ag5'), eI aq6 ak6 8 (ag6'), eO jp 2 [.ref pb, .ref pn, .int ps], eI pb kpb 80 fpb, eI pn kpn 80 fpn]) (va_A [eO h0 5 [.ref jb, .ref qm, .int mc, .ref qh, .ref qk, .ref qf, .int bg, .ref jp], eI qm km 60 fm, eI qh kh 8 fh, eR qk kk 9 fo, eI ro0 kr0 8 fr0, eI ro1 kr1 8 fr1, eI ro2 kr2 8 fr2, eI ro3 kr3 8 fr3, eI ro4 kr4 8 fr4, eI ro5 kr5 8 fr5, eI ro6 kr6 8 fr6, eI ro7 kr7 8 fr7, eI ro8 kr8 8 fr8, eL qf kf 9 ff, eO jb 0 [.ref aq0, .ref aq1, .ref aq2, .ref aq3, .ref aq4, .ref aq5, .ref aq6, .int aacc, .long afees, .int amis, .int abel, .int aref, .int acau], eI aq0 ak0 8 ag0, eI aq1 ak1 8 ag1, eI aq2 ak2 8 ag2, eI aq3 ak3 8 ag3, eI aq4 ak4 8 ag4, eI aq5 ak5 8 ag5, eI aq6 ak6 8 ag6, eO jp 2 [.ref pb, .ref pn, .int ps], eI pb kpb 80 fpb, eI pn kpn 80 fpn] sz)) 0 0 (va_A [eO h0 5 [.ref jb, .ref qm, .int mc, .ref qh, .ref qk, .ref qf, .int bg, .ref jp], eI qm km 60 fm, eI qh kh 8 fh, eR qk kk 9 fo, eI ro0 kr0 8 fr0, eI ro1 kr1 8 fr1, eI ro2 kr2 8 fr2, eI ro3 kr3 8 fr3, eI ro4 kr4 8 fr4, eI ro5 kr5 8 fr5, eI ro6 kr6 8 fr6, eI ro7 kr7 8 fr7, eI ro8 kr8 8 fr8, eL qf kf 9 ff, eO jb 0 [.ref aq0, .ref aq1, .ref aq2, .ref aq3, .ref aq4, .ref aq5, .ref aq6, .int aacc, .long afees, .int amis, .int abel, .int aref, .int acau], eI aq0 ak0 8 ag0, eI aq1 ak1 8 ag1, eI aq2 ak2 8 ag2, eI aq3 ak3 8 ag3, eI aq4 ak4 8 ag4, eI aq5 ak5 8 ag5, eI aq6 ak6 8 ag6, eO jp 2 [.ref pb, .ref pn, .int ps], eI pb kpb 80 fpb, eI pn kpn 80 fpn] sz) := by
  refine Met.ofW (cc := cX6_inside) (maxL := 4) (ret := (some .int)) (by decide) rfl ?_
  intro p e s m args below meth c s₁ B hml hv
  obtain ⟨rfl, hsz, hP, hK, hD0⟩ := hv
  have hx := B.exec
  have hb := B.bytes
  have hr := B.returns
  have hts := atoms_spec (ws := wsX6_inside) B.pre
  have hown : s.vm.findClass RX6 = some m.cls := findClass_of_methodNamed B.named
  have hlocks := B.notSynchronized
  subst hsz
  have hD := hD0.self (sz := s.heap.size)
  generalize hAe : va_A [eO h0 5 [.ref jb, .ref qm, .int mc, .ref qh, .ref qk, .ref qf, .int bg, .ref jp], eI qm km 60 fm, eI qh kh 8 fh, eR qk kk 9 fo, eI ro0 kr0 8 fr0, eI ro1 kr1 8 fr1, eI ro2 kr2 8 fr2, eI ro3 kr3 8 fr3, eI ro4 kr4 8 fr4, eI ro5 kr5 8 fr5, eI ro6 kr6 8 fr6, eI ro7 kr7 8 fr7, eI ro8 kr8 8 fr8, eL qf kf 9 ff, eO jb 0 [.ref aq0, .ref aq1, .ref aq2, .ref aq3, .ref aq4, .ref aq5, .ref aq6, .int aacc, .long afees, .int amis, .int abel, .int aref, .int acau], eI aq0 ak0 8 ag0, eI aq1 ak1 8 ag1, eI aq2 ak2 8 ag2, eI aq3 ak3 8 ag3, eI aq4 ak4 8 ag4, eI aq5 ak5 8 ag5, eI aq6 ak6 8 ag6, eO jp 2 [.ref pb, .ref pn, .int ps], eI pb kpb 80 fpb, eI pn kpn 80 fpn] s.heap.size = A at hD ⊢
  have hA : ∀ q : Nat, s.heap.size ≤ q → A q := fun q h => by rw [← hAe]; exact Or.inr h
  have hS : va_S A s.heap s.heap [] := va_S.rf
  have hP : va_P (dC, dI) vwCl [eO h0 5 [.ref jb, .ref qm, .int mc, .ref qh, .ref qk, .ref qf, .int bg, .ref jp], eI qm km 60 fm, eI qh kh 8 fh, eR qk kk 9 fo, eI ro0 kr0 8 fr0, eI ro1 kr1 8 fr1, eI ro2 kr2 8 fr2, eI ro3 kr3 8 fr3, eI ro4 kr4 8 fr4, eI ro5 kr5 8 fr5, eI ro6 kr6 8 fr6, eI ro7 kr7 8 fr7, eI ro8 kr8 8 fr8, eL qf kf 9 ff, eO jb 0 [.ref aq0, .ref aq1, .ref aq2, .ref aq3, .ref aq4, .ref aq5, .ref aq6, .int aacc, .long afees, .int amis, .int abel, .int aref, .int acau], eI aq0 ak0 8 ag0, eI aq1 ak1 8 ag1, eI aq2 ak2 8 ag2, eI aq3 ak3 8 ag3, eI aq4 ak4 8 ag4, eI aq5 ak5 8 ag5, eI aq6 ak6 8 ag6, eO jp 2 [.ref pb, .ref pn, .int ps], eI pb kpb 80 fpb, eI pn kpn 80 fpn] s.heap := hP
  have hl := lv_entry ([.ref h0, .int p0, .int p1, .int dp]) (n := 4) (Nat.le_of_ble_eq_true rfl)
  rw [lg_entry_eq]
  generalize (lg_sl ([.ref h0, .int p0, .int p1, .int dp]) ++ List.replicate (4 - (lg_sl ([.ref h0, .int p0, .int p1, .int dp])).length) Slot.unset).toArray = ls at hl ⊢
  have hl : lv_has ls 4 [(0, .ref h0), (1, .int p0), (2, .int p1), (3, .int dp)] := hl
  suffices key9 : ∀ Q9 : State → Prop, Q9 = (MQ below (va_Qi (fun (r : Int32) (_ : Unit) => True) (fun (_ : Unit) (t : State) => ∃ (fm' : Nat → Int32), ∃ (fh' : Nat → Int32), ∃ (fr0' : Nat → Int32), ∃ (fr1' : Nat → Int32), ∃ (fr2' : Nat → Int32), ∃ (fr3' : Nat → Int32), ∃ (fr4' : Nat → Int32), ∃ (fr5' : Nat → Int32), ∃ (fr6' : Nat → Int32), ∃ (fr7' : Nat → Int32), ∃ (fr8' : Nat → Int32), ∃ (ff' : Nat → Int64), ∃ (mc' : Int32), ∃ (bg' : Int32), ∃ (ag1' : Nat → Int32), ∃ (ag4' : Nat → Int32), ∃ (ag5' : Nat → Int32), ∃ (ag6' : Nat → Int32), ∃ (afees' : Int64), ∃ (amis' : Int32), ∃ (abel' : Int32), ∃ (aref' : Int32), ∃ (acau' : Int32), (bg.toInt ≤ bg'.toInt) ∧ (bg'.toInt ≤ 500) ∧ (0 ≤ mc'.toInt) ∧ (mc'.toInt + 2 * (500 - bg'.toInt) ≤ mc.toInt + 2 * (500 - bg.toInt) + 0) ∧ va_P (dC, dI) vwCl [eO h0 5 [.ref jb, .ref qm, .int mc', .ref qh, .ref qk, .ref qf, .int bg', .ref jp], eI qm km 60 (fm'), eI qh kh 8 (fh'), eR qk kk 9 fo, eI ro0 kr0 8 (fr0'), eI ro1 kr1 8 (fr1'), eI ro2 kr2 8 (fr2'), eI ro3 kr3 8 (fr3'), eI ro4 kr4 8 (fr4'), eI ro5 kr5 8 (fr5'), eI ro6 kr6 8 (fr6'), eI ro7 kr7 8 (fr7'), eI ro8 kr8 8 (fr8'), eL qf kf 9 (ff'), eO jb 0 [.ref aq0, .ref aq1, .ref aq2, .ref aq3, .ref aq4, .ref aq5, .ref aq6, .int aacc, .long afees', .int amis', .int abel', .int aref', .int acau'], eI aq0 ak0 8 ag0, eI aq1 ak1 8 (ag1'), eI aq2 ak2 8 ag2, eI aq3 ak3 8 ag3, eI aq4 ak4 8 (ag4'), eI aq5 ak5 8 (ag5'), eI aq6 ak6 8 (ag6'), eO jp 2 [.ref pb, .ref pn, .int ps], eI pb kpb 80 fpb, eI pn kpn 80 fpn] t.heap ∧ va_K (dC, dI) vwCl [(km, .int), (kh, .int), (kk, .array .int), (kr0, .int), (kr1, .int), (kr2, .int), (kr3, .int), (kr4, .int), (kr5, .int), (kr6, .int), (kr7, .int), (kr8, .int), (kf, .long), (ak0, .int), (ak1, .int), (ak2, .int), (ak3, .boolean), (ak4, .int), (ak5, .int), (ak6, .int), (kpb, .int), (kpn, .int)] t ∧ va_D A [eO h0 5 [.ref jb, .ref qm, .int mc', .ref qh, .ref qk, .ref qf, .int bg', .ref jp], eI qm km 60 (fm'), eI qh kh 8 (fh'), eR qk kk 9 fo, eI ro0 kr0 8 (fr0'), eI ro1 kr1 8 (fr1'), eI ro2 kr2 8 (fr2'), eI ro3 kr3 8 (fr3'), eI ro4 kr4 8 (fr4'), eI ro5 kr5 8 (fr5'), eI ro6 kr6 8 (fr6'), eI ro7 kr7 8 (fr7'), eI ro8 kr8 8 (fr8'), eL qf kf 9 (ff'), eO jb 0 [.ref aq0, .ref aq1, .ref aq2, .ref aq3, .ref aq4, .ref aq5, .ref aq6, .int aacc, .long afees', .int amis', .int abel', .int aref', .int acau'], eI aq0 ak0 8 ag0, eI aq1 ak1 8 (ag1'), eI aq2 ak2 8 ag2, eI aq3 ak3 8 ag3, eI aq4 ak4 8 (ag4'), eI aq5 ak5 8 (ag5'), eI aq6 ak6 8 (ag6'), eO jp 2 [.ref pb, .ref pn, .int ps], eI pb kpb 80 fpb, eI pn kpn 80 fpn]) A) (([.ref h0, .int p0, .int p1, .int dp] : List Value).toArray) s 0 0 A) → W p l e ({ frames := 10 * nd + 7, cells := 0, slots := 0, locals := 200 * nd + 80 }) s m (([.ref h0, .int p0, .int p1, .int dp] : List Value).toArray) below meth c s.heap [] 0 0 Q9 (F0 m 0 ls []) from key9 _ rfl
  intro Q9 hQ9
  have k_1 : (1 : Int32).toInt = 1 := by decide
  have k_5 : (5 : Int32).toInt = 5 := by decide
  have k_8 : (8 : Int32).toInt = 8 := by decide
  refine lv_iload_n hx hb dX6_inside_0 rfl (lv_at hl 3 rfl) ?_
  refine lv_bipush (v := 8) hx hb dX6_inside_1 (by decide) ?_
  refine lv_icmp_lt (tgt := 8) hx hb dX6_inside_3 (by decide) (fun c1 => ?_) (fun c1 => ?_)
  · skip
    have f_c1 := i_lt c1
    refine lv_aload_n hx hb dX6_inside_8 rfl (lv_at hl 0 rfl) ?_
    refine lv_iload_n hx hb dX6_inside_9 rfl (lv_at hl 2 rfl) ?_
    refine lv_aload_n hx hb dX6_inside_10 rfl (lv_at hl 0 rfl) ?_
    refine va_get (D := (dC, dI)) (ci := 5) (v := .ref jp) (C := RX6) (T := TX6) (N := 8) hx hb hts (fun w h => List.mem_cons_of_mem _ (inlX6 w h)) hown hK hP 0 rfl rfl 7 (by decide) (hts (.fieldLink RX6 41 "ClearingGates$Runner" "program" "LClearingGates$Program;") (List.mem_cons_of_mem _ mw_195)) (fun _ h9 => h9) rfl dX6_inside_11 ?_
    refine lv_iload_n hx hb dX6_inside_14 rfl (lv_at hl 1 rfl) ?_
    obtain ⟨hPc, hDc, hFc, hCm, hNw⟩ := C_s (wc := [eO jp 2 [.ref pb, .ref pn, .int ps], eI pn kpn 80 fpn]) hP hD hS hA [(22, 1), (24, 1)] 25 rfl (by decide +kernel) rfl
    have hKc := K_s (tys' := [(kpn, .int)]) hK [(21, 1)] rfl
    refine va_calli (va_runV (As := [.int p0]) (rest := [.int p1, .ref h0]) ⟨hx, hb, hml, hown, hts⟩ (c_X3_behindItem l dC dI jp p0 pb pn ps kpn fpn s.heap.size hp1 hp2 hb0) (cwV 1 hts gX6_inside_X3_behindItem rfl rfl rfl (by decide +kernel) ⟨(show (0) + 1 ≤ 10 * nd + 7 by omega), (show 8 + (2 + 11) + (0) ≤ 200 * nd + 80 by omega)⟩) ⟨fun a U g mk q => by obtain ⟨q0, q1, qP, qK, qD⟩ := q; exact ⟨q0, q1, qP, va_K.moved (u := U) (U := U.calling g mk a) (Vm.Alike.refl U.vm) qK, qD⟩, va_recv (s := s) (q := (RX3, TX3, 3)) hKc hPc (ci := 2) (q0 := 0) rfl rfl, fun U hU hW => ⟨rfl, by rw [hU], by rw [hU]; exact hPc, va_K.moved hW.alike hKc, hDc.weaken (fun _ _ _ _ => trivial)⟩⟩ rfl rfl hl.1 rfl (lv_room (Nat.le_of_ble_eq_true rfl)) dX6_inside_15 ⟨Nat.le_of_ble_eq_true rfl, Nat.le_of_ble_eq_true rfl⟩) hS (fun q _ h => hFc q h) hFc (fun r2 u t H1 locs ht hvm hw hB hz1 hk1 hS => ?_)
    obtain ⟨hP1, hK1, hD1⟩ := hB
    rw [ht] at hP1
    have hK1 := va_K.moved hvm.symm hK1
    try dsimp only at hw
    obtain ⟨hP, hD⟩ := J_s (wL := [eO h0 5 [.ref jb, .ref qm, .int mc, .ref qh, .ref qk, .ref qf, .int bg, .ref jp], eI qm km 60 fm, eI qh kh 8 fh, eR qk kk 9 fo, eI ro0 kr0 8 fr0, eI ro1 kr1 8 fr1, eI ro2 kr2 8 fr2, eI ro3 kr3 8 fr3, eI ro4 kr4 8 fr4, eI ro5 kr5 8 fr5, eI ro6 kr6 8 fr6, eI ro7 kr7 8 fr7, eI ro8 kr8 8 fr8, eL qf kf 9 ff, eO jb 0 [.ref aq0, .ref aq1, .ref aq2, .ref aq3, .ref aq4, .ref aq5, .ref aq6, .int aacc, .long afees, .int amis, .int abel, .int aref, .int acau], eI aq0 ak0 8 ag0, eI aq1 ak1 8 ag1, eI aq2 ak2 8 ag2, eI aq3 ak3 8 ag3, eI aq4 ak4 8 ag4, eI aq5 ak5 8 ag5, eI aq6 ak6 8 ag6, eI pb kpb 80 fpb, eO jp 2 [.ref pb, .ref pn, .int ps], eI pn kpn 80 fpn]) hP hD [(22, 1), (24, 1)] [(0, 22), (23, 1)] hCm hNw (by decide +kernel) hk1 hFc hP1 hD1 rfl
    have hK := KJ_s (tys' := [(km, .int), (kh, .int), (kk, .array .int), (kr0, .int), (kr1, .int), (kr2, .int), (kr3, .int), (kr4, .int), (kr5, .int), (kr6, .int), (kr7, .int), (kr8, .int), (kf, .long), (ak0, .int), (ak1, .int), (ak2, .int), (ak3, .boolean), (ak4, .int), (ak5, .int), (ak6, .int), (kpb, .int), (kpn, .int)]) hK hK1 [(0, 21)] rfl
    generalize H1 = H at hP hS ⊢
    have h_r2 := hw
    refine lv_iconst (v := 1) hx hb dX6_inside_18 (by decide) ?_
    refine lv_isub hx hb dX6_inside_19 ?_
    refine lv_topi (fun z3 e_z3 => ?_)
    (first | have t_z3 := i_sub e_z3 (by omega) (by omega) | skip)
    refine lv_iload_n hx hb dX6_inside_20 rfl (lv_at hl 3 rfl) ?_
    refine lv_iconst (v := 1) hx hb dX6_inside_21 (by decide) ?_
    refine lv_iadd hx hb dX6_inside_22 ?_
    refine lv_topi (fun z4 e_z4 => ?_)
    (first | have t_z4 := i_add e_z4 (by omega) (by omega) | skip)
    obtain ⟨m9, hm⟩ : ∃ m9 : Nat, m9 + 1 = nd := ⟨nd - 1, by omega⟩
    have ih_m := ih m9 hm
    obtain ⟨hPc, hDc, hFc, hCm, hNw⟩ := C_s (wc := [eO h0 5 [.ref jb, .ref qm, .int mc, .ref qh, .ref qk, .ref qf, .int bg, .ref jp], eI qm km 60 fm, eI qh kh 8 fh, eR qk kk 9 fo, eI ro0 kr0 8 fr0, eI ro1 kr1 8 fr1, eI ro2 kr2 8 fr2, eI ro3 kr3 8 fr3, eI ro4 kr4 8 fr4, eI ro5 kr5 8 fr5, eI ro6 kr6 8 fr6, eI ro7 kr7 8 fr7, eI ro8 kr8 8 fr8, eL qf kf 9 ff, eO jb 0 [.ref aq0, .ref aq1, .ref aq2, .ref aq3, .ref aq4, .ref aq5, .ref aq6, .int aacc, .long afees, .int amis, .int abel, .int aref, .int acau], eI aq0 ak0 8 ag0, eI aq1 ak1 8 ag1, eI aq2 ak2 8 ag2, eI aq3 ak3 8 ag3, eI aq4 ak4 8 ag4, eI aq5 ak5 8 ag5, eI aq6 ak6 8 ag6, eO jp 2 [.ref pb, .ref pn, .int ps], eI pb kpb 80 fpb, eI pn kpn 80 fpn]) hP hD hS hA [(0, 22), (23, 1), (22, 1), (24, 1)] 25 rfl (by decide +kernel) rfl
    have hKc := K_s (tys' := [(km, .int), (kh, .int), (kk, .array .int), (kr0, .int), (kr1, .int), (kr2, .int), (kr3, .int), (kr4, .int), (kr5, .int), (kr6, .int), (kr7, .int), (kr8, .int), (kf, .long), (ak0, .int), (ak1, .int), (ak2, .int), (ak3, .boolean), (ak4, .int), (ak5, .int), (ak6, .int), (kpb, .int), (kpn, .int)]) hK [(0, 22)] rfl
    refine va_calli (va_runV (As := [.int p1, .int z3, .int z4]) (rest := []) ⟨hx, hb, hml, hown, hts⟩ (ih_m h0 p1 z3 z4 jb qm mc qh qk qf bg jp km fm kh fh kk fo ro0 kr0 fr0 ro1 kr1 fr1 ro2 kr2 fr2 ro3 kr3 fr3 ro4 kr4 fr4 ro5 kr5 fr5 ro6 kr6 fr6 ro7 kr7 fr7 ro8 kr8 fr8 kf ff aq0 aq1 aq2 aq3 aq4 aq5 aq6 aacc afees amis abel aref acau ak0 ag0 ak1 ag1 ak2 ag2 ak3 ag3 ak4 ag4 ak5 ag5 ak6 ag6 pb pn ps kpb fpb kpn fpn H.size ra1 ra2 hp1 hp2 hb0 hf0 hf1 hf2 hf3 hf4 hf5 hf6 hf7 hf8 rb1 rb2 rb3 rb4 pl3 pl4 (by first | assumption | omega) (by first | assumption | omega) (by first | assumption | omega)) (cwV 3 hts gX6_inside_X6_items rfl rfl rfl (by decide +kernel) ⟨(show (10 * m9 + 10) + 1 ≤ 10 * nd + 7 by omega), (show 8 + (6 + 11) + (200 * m9 + 200) ≤ 200 * nd + 80 by omega)⟩) ⟨fun a U g mk q => by obtain ⟨q0, q1, qP, qK, qD⟩ := q; exact ⟨q0, q1, qP, va_K.moved (u := U) (U := U.calling g mk a) (Vm.Alike.refl U.vm) qK, qD⟩, va_recv (s := s) (q := (RX6, TX6, 8)) hKc hPc (ci := 5) (q0 := 0) rfl rfl, fun U hU hW => ⟨rfl, by rw [hU], by rw [hU]; exact hPc, va_K.moved hW.alike hKc, hDc.weaken (fun _ _ _ _ => trivial)⟩⟩ rfl rfl hl.1 rfl (lv_room (Nat.le_of_ble_eq_true rfl)) dX6_inside_23 ⟨Nat.le_of_ble_eq_true rfl, Nat.le_of_ble_eq_true rfl⟩) hS (fun q _ h => hFc q h) hFc (fun r5 u t H1 locs ht hvm hw hB hz1 hk1 hS => ?_)
    refine Exists.elim hB ?_; clear hB; intro q6 hB
    refine Exists.elim hB ?_; clear hB; intro q7 hB
    refine Exists.elim hB ?_; clear hB; intro q8 hB
    refine Exists.elim hB ?_; clear hB; intro q9 hB
    refine Exists.elim hB ?_; clear hB; intro q10 hB
    refine Exists.elim hB ?_; clear hB; intro q11 hB
    refine Exists.elim hB ?_; clear hB; intro q12 hB
    refine Exists.elim hB ?_; clear hB; intro q13 hB
    refine Exists.elim hB ?_; clear hB; intro q14 hB
    refine Exists.elim hB ?_; clear hB; intro q15 hB
    refine Exists.elim hB ?_; clear hB; intro q16 hB
    refine Exists.elim hB ?_; clear hB; intro q17 hB
    refine Exists.elim hB ?_; clear hB; intro q18 hB
    refine Exists.elim hB ?_; clear hB; intro q19 hB
    refine Exists.elim hB ?_; clear hB; intro q20 hB
    refine Exists.elim hB ?_; clear hB; intro q21 hB
    refine Exists.elim hB ?_; clear hB; intro q22 hB
    refine Exists.elim hB ?_; clear hB; intro q23 hB
    refine Exists.elim hB ?_; clear hB; intro q24 hB
    refine Exists.elim hB ?_; clear hB; intro q25 hB
    refine Exists.elim hB ?_; clear hB; intro q26 hB
    refine Exists.elim hB ?_; clear hB; intro q27 hB
    refine Exists.elim hB ?_; clear hB; intro q28 hB
    have x1_r5 := hB.1
    replace hB := hB.2
    have x2_r5 := hB.1
    replace hB := hB.2
    have x3_r5 := hB.1
    replace hB := hB.2
    have x4_r5 := hB.1
    replace hB := hB.2
    obtain ⟨hP1, hK1, hD1⟩ := hB
    rw [ht] at hP1
    have hK1 := va_K.moved hvm.symm hK1
    try dsimp only at hw
    obtain ⟨hP, hD⟩ := J_s (wL := [eO h0 5 [.ref jb, .ref qm, .int q18, .ref qh, .ref qk, .ref qf, .int q19, .ref jp], eI qm km 60 q6, eI qh kh 8 q7, eR qk kk 9 fo, eI ro0 kr0 8 q8, eI ro1 kr1 8 q9, eI ro2 kr2 8 q10, eI ro3 kr3 8 q11, eI ro4 kr4 8 q12, eI ro5 kr5 8 q13, eI ro6 kr6 8 q14, eI ro7 kr7 8 q15, eI ro8 kr8 8 q16, eL qf kf 9 q17, eO jb 0 [.ref aq0, .ref aq1, .ref aq2, .ref aq3, .ref aq4, .ref aq5, .ref aq6, .int aacc, .long q24, .int q25, .int q26, .int q27, .int q28], eI aq0 ak0 8 ag0, eI aq1 ak1 8 q20, eI aq2 ak2 8 ag2, eI aq3 ak3 8 ag3, eI aq4 ak4 8 q21, eI aq5 ak5 8 q22, eI aq6 ak6 8 q23, eO jp 2 [.ref pb, .ref pn, .int ps], eI pb kpb 80 fpb, eI pn kpn 80 fpn]) hP hD [(0, 22), (23, 1), (22, 1), (24, 1)] [] hCm hNw (by decide +kernel) hk1 hFc hP1 hD1 rfl
    have hK := KJ_s (tys' := [(km, .int), (kh, .int), (kk, .array .int), (kr0, .int), (kr1, .int), (kr2, .int), (kr3, .int), (kr4, .int), (kr5, .int), (kr6, .int), (kr7, .int), (kr8, .int), (kf, .long), (ak0, .int), (ak1, .int), (ak2, .int), (ak3, .boolean), (ak4, .int), (ak5, .int), (ak6, .int), (kpb, .int), (kpn, .int)]) hK hK1 [] rfl
    generalize H1 = H at hP hS ⊢
    rw [hQ9]
    exact W.iret (v := r5) hx hb hr (fun t ht hW => ⟨⟨r5, (), rfl, (by first | rfl | trivial), q6, q7, q8, q9, q10, q11, q12, q13, q14, q15, q16, q17, q18, q19, q20, q21, q22, q23, q24, q25, q26, q27, q28, (by first | assumption | omega), (by first | assumption | omega), (by first | assumption | omega), (by first | assumption | omega), by rw [ht]; exact hP, va_K.moved hW.alike hK, hD⟩, hS.F ht⟩) hS.2.2 dX6_inside_26
  · skip
    have f_c1 := i_nlt c1
    refine lv_iconst (v := 5) hx hb dX6_inside_6 (by decide) ?_
    rw [hQ9]
    exact W.iret (v := 5) hx hb hr (fun t ht hW => ⟨⟨5, (), rfl, (by first | rfl | trivial), fm, fh, fr0, fr1, fr2, fr3, fr4, fr5, fr6, fr7, fr8, ff, mc, bg, ag1, ag4, ag5, ag6, afees, amis, abel, aref, acau, (by first | assumption | omega), (by first | assumption | omega), (by first | assumption | omega), (by first | assumption | omega), by rw [ht]; exact hP, va_K.moved hW.alike hK, hD⟩, hS.F ht⟩) hS.2.2 dX6_inside_7

set_option maxRecDepth 100000 in
set_option maxHeartbeats 4000000 in
/-- Runner.block -/
theorem c_X6_block (l : Launch) (dC : Nat → ClassId) (dI : Nat → Nat → Nat) (h0 : Nat) (p0 : Int32) (dp : Int32) (jb : Nat) (qm : Nat) (mc : Int32) (qh : Nat) (qk : Nat) (qf : Nat) (bg : Int32) (jp : Nat) (km : ClassId) (fm : Nat → Int32) (kh : ClassId) (fh : Nat → Int32) (kk : ClassId) (fo : Nat → Option Nat) (ro0 : Nat) (kr0 : ClassId) (fr0 : Nat → Int32) (ro1 : Nat) (kr1 : ClassId) (fr1 : Nat → Int32) (ro2 : Nat) (kr2 : ClassId) (fr2 : Nat → Int32) (ro3 : Nat) (kr3 : ClassId) (fr3 : Nat → Int32) (ro4 : Nat) (kr4 : ClassId) (fr4 : Nat → Int32) (ro5 : Nat) (kr5 : ClassId) (fr5 : Nat → Int32) (ro6 : Nat) (kr6 : ClassId) (fr6 : Nat → Int32) (ro7 : Nat) (kr7 : ClassId) (fr7 : Nat → Int32) (ro8 : Nat) (kr8 : ClassId) (fr8 : Nat → Int32) (kf : ClassId) (ff : Nat → Int64) (aq0 : Nat) (aq1 : Nat) (aq2 : Nat) (aq3 : Nat) (aq4 : Nat) (aq5 : Nat) (aq6 : Nat) (aacc : Int32) (afees : Int64) (amis : Int32) (abel : Int32) (aref : Int32) (acau : Int32) (ak0 : ClassId) (ag0 : Nat → Int32) (ak1 : ClassId) (ag1 : Nat → Int32) (ak2 : ClassId) (ag2 : Nat → Int32) (ak3 : ClassId) (ag3 : Nat → Int32) (ak4 : ClassId) (ag4 : Nat → Int32) (ak5 : ClassId) (ag5 : Nat → Int32) (ak6 : ClassId) (ag6 : Nat → Int32) (pb : Nat) (pn : Nat) (ps : Int32) (kpb : ClassId) (fpb : Nat → Int32) (kpn : ClassId) (fpn : Nat → Int32) (nd : Nat) (sz : Nat) (ra1 : 0 ≤ aacc.toInt) (ra2 : aacc.toInt ≤ 8) (hp1 : 0 ≤ ps.toInt) (hp2 : ps.toInt ≤ 80) (hb0 : ∀ k : Nat, 0 ≤ (fpn k).toInt ∧ (fpn k).toInt ≤ 80) (hf0 : fo 0 = some ro0) (hf1 : fo 1 = some ro1) (hf2 : fo 2 = some ro2) (hf3 : fo 3 = some ro3) (hf4 : fo 4 = some ro4) (hf5 : fo 5 = some ro5) (hf6 : fo 6 = some ro6) (hf7 : fo 7 = some ro7) (hf8 : fo 8 = some ro8) (rb1 : 0 ≤ bg.toInt) (rb2 : bg.toInt ≤ 500) (rb3 : 0 ≤ mc.toInt) (rb4 : mc.toInt + 2 * (500 - bg.toInt) ≤ 1098) (pl1 : 0 ≤ p0.toInt) (pl2 : p0.toInt ≤ 90) (hd0 : 0 ≤ dp.toInt) (hdn : dp.toInt + (nd : Int) = 8) (ih : ∀ m : Nat, m + 1 = nd → KI l dC dI m) : Met l yX6_block wsX6_block ({ frames := 10 * nd + 8, cells := 0, slots := 0, locals := 200 * nd + 120 }) (va_Pc [.ref h0, .int p0, .int dp] (fun U => U.heap.size = sz ∧ va_P (dC, dI) vwCl [eO h0 5 [.ref jb, .ref qm, .int mc, .ref qh, .ref qk, .ref qf, .int bg, .ref jp], eI qm km 60 fm, eI qh kh 8 fh, eR qk kk 9 fo, eI ro0 kr0 8 fr0, eI ro1 kr1 8 fr1, eI ro2 kr2 8 fr2, eI ro3 kr3 8 fr3, eI ro4 kr4 8 fr4, eI ro5 kr5 8 fr5, eI ro6 kr6 8 fr6, eI ro7 kr7 8 fr7, eI ro8 kr8 8 fr8, eL qf kf 9 ff, eO jb 0 [.ref aq0, .ref aq1, .ref aq2, .ref aq3, .ref aq4, .ref aq5, .ref aq6, .int aacc, .long afees, .int amis, .int abel, .int aref, .int acau], eI aq0 ak0 8 ag0, eI aq1 ak1 8 ag1, eI aq2 ak2 8 ag2, eI aq3 ak3 8 ag3, eI aq4 ak4 8 ag4, eI aq5 ak5 8 ag5, eI aq6 ak6 8 ag6, eO jp 2 [.ref pb, .ref pn, .int ps], eI pb kpb 80 fpb, eI pn kpn 80 fpn] U.heap ∧ va_K (dC, dI) vwCl [(km, .int), (kh, .int), (kk, .array .int), (kr0, .int), (kr1, .int), (kr2, .int), (kr3, .int), (kr4, .int), (kr5, .int), (kr6, .int), (kr7, .int), (kr8, .int), (kf, .long), (ak0, .int), (ak1, .int), (ak2, .int), (ak3, .boolean), (ak4, .int), (ak5, .int), (ak6, .int), (kpb, .int), (kpn, .int)] U ∧ va_D (fun _ => True) [eO h0 5 [.ref jb, .ref qm, .int mc, .ref qh, .ref qk, .ref qf, .int bg, .ref jp], eI qm km 60 fm, eI qh kh 8 fh, eR qk kk 9 fo, eI ro0 kr0 8 fr0, eI ro1 kr1 8 fr1, eI ro2 kr2 8 fr2, eI ro3 kr3 8 fr3, eI ro4 kr4 8 fr4, eI ro5 kr5 8 fr5, eI ro6 kr6 8 fr6, eI ro7 kr7 8 fr7, eI ro8 kr8 8 fr8, eL qf kf 9 ff, eO jb 0 [.ref aq0, .ref aq1, .ref aq2, .ref aq3, .ref aq4, .ref aq5, .ref aq6, .int aacc, .long afees, .int amis, .int abel, .int aref, .int acau], eI aq0 ak0 8 ag0, eI aq1 ak1 8 ag1, eI aq2 ak2 8 ag2, eI aq3 ak3 8 ag3, eI aq4 ak4 8 ag4, eI aq5 ak5 8 ag5, eI aq6 ak6 8 ag6, eO jp 2 [.ref pb, .ref pn, .int ps], eI pb kpb 80 fpb, eI pn kpn 80 fpn])) (va_Qi (fun (r : Int32) (_ : Unit) => True) (fun (_ : Unit) (t : State) => ∃ (fm' : Nat → Int32), ∃ (fh' : Nat → Int32), ∃ (fr0' : Nat → Int32), ∃ (fr1' : Nat → Int32), ∃ (fr2' : Nat → Int32), ∃ (fr3' : Nat → Int32), ∃ (fr4' : Nat → Int32), ∃ (fr5' : Nat → Int32), ∃ (fr6' : Nat → Int32), ∃ (fr7' : Nat → Int32), ∃ (fr8' : Nat → Int32), ∃ (ff' : Nat → Int64), ∃ (mc' : Int32), ∃ (bg' : Int32), ∃ (ag1' : Nat → Int32), ∃ (ag4' : Nat → Int32), ∃ (ag5' : Nat → Int32), ∃ (ag6' : Nat → Int32), ∃ (afees' : Int64), ∃ (amis' : Int32), ∃ (abel' : Int32), ∃ (aref' : Int32), ∃ (acau' : Int32), (bg.toInt ≤ bg'.toInt) ∧ (bg'.toInt ≤ 500) ∧ (0 ≤ mc'.toInt) ∧ (mc'.toInt + 2 * (500 - bg'.toInt) ≤ mc.toInt + 2 * (500 - bg.toInt) + 2) ∧ va_P (dC, dI) vwCl [eO h0 5 [.ref jb, .ref qm, .int mc', .ref qh, .ref qk, .ref qf, .int bg', .ref jp], eI qm km 60 (fm'), eI qh kh 8 (fh'), eR qk kk 9 fo, eI ro0 kr0 8 (fr0'), eI ro1 kr1 8 (fr1'), eI ro2 kr2 8 (fr2'), eI ro3 kr3 8 (fr3'), eI ro4 kr4 8 (fr4'), eI ro5 kr5 8 (fr5'), eI ro6 kr6 8 (fr6'), eI ro7 kr7 8 (fr7'), eI ro8 kr8 8 (fr8'), eL qf kf 9 (ff'), eO jb 0 [.ref aq0, .ref aq1, .ref aq2, .ref aq3, .ref aq4, .ref aq5, .ref aq6, .int aacc, .long afees', .int amis', .int abel', .int aref', .int acau'], eI aq0 ak0 8 ag0, eI aq1 ak1 8 (ag1'), eI aq2 ak2 8 ag2, eI aq3 ak3 8 ag3, eI aq4 ak4 8 (ag4'), eI aq5 ak5 8 (ag5'), eI aq6 ak6 8 (ag6'), eO jp 2 [.ref pb, .ref pn, .int ps], eI pb kpb 80 fpb, eI pn kpn 80 fpn] t.heap ∧ va_K (dC, dI) vwCl [(km, .int), (kh, .int), (kk, .array .int), (kr0, .int), (kr1, .int), (kr2, .int), (kr3, .int), (kr4, .int), (kr5, .int), (kr6, .int), (kr7, .int), (kr8, .int), (kf, .long), (ak0, .int), (ak1, .int), (ak2, .int), (ak3, .boolean), (ak4, .int), (ak5, .int), (ak6, .int), (kpb, .int), (kpn, .int)] t ∧ va_D (va_A [eO h0 5 [.ref jb, .ref qm, .int mc, .ref qh, .ref qk, .ref qf, .int bg, .ref jp], eI qm km 60 fm, eI qh kh 8 fh, eR qk kk 9 fo, eI ro0 kr0 8 fr0, eI ro1 kr1 8 fr1, eI ro2 kr2 8 fr2, eI ro3 kr3 8 fr3, eI ro4 kr4 8 fr4, eI ro5 kr5 8 fr5, eI ro6 kr6 8 fr6, eI ro7 kr7 8 fr7, eI ro8 kr8 8 fr8, eL qf kf 9 ff, eO jb 0 [.ref aq0, .ref aq1, .ref aq2, .ref aq3, .ref aq4, .ref aq5, .ref aq6, .int aacc, .long afees, .int amis, .int abel, .int aref, .int acau], eI aq0 ak0 8 ag0, eI aq1 ak1 8 ag1, eI aq2 ak2 8 ag2, eI aq3 ak3 8 ag3, eI aq4 ak4 8 ag4, eI aq5 ak5 8 ag5, eI aq6 ak6 8 ag6, eO jp 2 [.ref pb, .ref pn, .int ps], eI pb kpb 80 fpb, eI pn kpn 80 fpn] sz) [eO h0 5 [.ref jb, .ref qm, .int mc', .ref qh, .ref qk, .ref qf, .int bg', .ref jp], eI qm km 60 (fm'), eI qh kh 8 (fh'), eR qk kk 9 fo, eI ro0 kr0 8 (fr0'), eI ro1 kr1 8 (fr1'), eI ro2 kr2 8 (fr2'), eI ro3 kr3 8 (fr3'), eI ro4 kr4 8 (fr4'), eI ro5 kr5 8 (fr5'), eI ro6 kr6 8 (fr6'), eI ro7 kr7 8 (fr7'), eI ro8 kr8 8 (fr8'), eL qf kf 9 (ff'), eO jb 0 [.ref aq0, .ref aq1, .ref aq2, .ref aq3, .ref aq4, .ref aq5, .ref aq6, .int aacc, .long afees', .int amis', .int abel', .int aref', .int acau'], eI aq0 ak0 8 ag0, eI aq1 ak1 8 (ag1'), eI aq2 ak2 8 ag2, eI aq3 ak3 8 ag3, eI aq4 ak4 8 (ag4'), eI aq5 ak5 8 (ag5'), eI aq6 ak6 8 (ag6'), eO jp 2 [.ref pb, .ref pn, .int ps], eI pb kpb 80 fpb, eI pn kpn 80 fpn]) (va_A [eO h0 5 [.ref jb, .ref qm, .int mc, .ref qh, .ref qk, .ref qf, .int bg, .ref jp], eI qm km 60 fm, eI qh kh 8 fh, eR qk kk 9 fo, eI ro0 kr0 8 fr0, eI ro1 kr1 8 fr1, eI ro2 kr2 8 fr2, eI ro3 kr3 8 fr3, eI ro4 kr4 8 fr4, eI ro5 kr5 8 fr5, eI ro6 kr6 8 fr6, eI ro7 kr7 8 fr7, eI ro8 kr8 8 fr8, eL qf kf 9 ff, eO jb 0 [.ref aq0, .ref aq1, .ref aq2, .ref aq3, .ref aq4, .ref aq5, .ref aq6, .int aacc, .long afees, .int amis, .int abel, .int aref, .int acau], eI aq0 ak0 8 ag0, eI aq1 ak1 8 ag1, eI aq2 ak2 8 ag2, eI aq3 ak3 8 ag3, eI aq4 ak4 8 ag4, eI aq5 ak5 8 ag5, eI aq6 ak6 8 ag6, eO jp 2 [.ref pb, .ref pn, .int ps], eI pb kpb 80 fpb, eI pn kpn 80 fpn] sz)) 0 0 (va_A [eO h0 5 [.ref jb, .ref qm, .int mc, .ref qh, .ref qk, .ref qf, .int bg, .ref jp], eI qm km 60 fm, eI qh kh 8 fh, eR qk kk 9 fo, eI ro0 kr0 8 fr0, eI ro1 kr1 8 fr1, eI ro2 kr2 8 fr2, eI ro3 kr3 8 fr3, eI ro4 kr4 8 fr4, eI ro5 kr5 8 fr5, eI ro6 kr6 8 fr6, eI ro7 kr7 8 fr7, eI ro8 kr8 8 fr8, eL qf kf 9 ff, eO jb 0 [.ref aq0, .ref aq1, .ref aq2, .ref aq3, .ref aq4, .ref aq5, .ref aq6, .int aacc, .long afees, .int amis, .int abel, .int aref, .int acau], eI aq0 ak0 8 ag0, eI aq1 ak1 8 ag1, eI aq2 ak2 8 ag2, eI aq3 ak3 8 ag3, eI aq4 ak4 8 ag4, eI aq5 ak5 8 ag5, eI aq6 ak6 8 ag6, eO jp 2 [.ref pb, .ref pn, .int ps], eI pb kpb 80 fpb, eI pn kpn 80 fpn] sz) := by
  refine Met.ofW (cc := cX6_block) (maxL := 5) (ret := (some .int)) (by decide) rfl ?_
  intro p e s m args below meth c s₁ B hml hv
  obtain ⟨rfl, hsz, hP, hK, hD0⟩ := hv
  have hx := B.exec
  have hb := B.bytes
  have hr := B.returns
  have hts := atoms_spec (ws := wsX6_block) B.pre
  have hown : s.vm.findClass RX6 = some m.cls := findClass_of_methodNamed B.named
  have hlocks := B.notSynchronized
  subst hsz
  have hD := hD0.self (sz := s.heap.size)
  generalize hAe : va_A [eO h0 5 [.ref jb, .ref qm, .int mc, .ref qh, .ref qk, .ref qf, .int bg, .ref jp], eI qm km 60 fm, eI qh kh 8 fh, eR qk kk 9 fo, eI ro0 kr0 8 fr0, eI ro1 kr1 8 fr1, eI ro2 kr2 8 fr2, eI ro3 kr3 8 fr3, eI ro4 kr4 8 fr4, eI ro5 kr5 8 fr5, eI ro6 kr6 8 fr6, eI ro7 kr7 8 fr7, eI ro8 kr8 8 fr8, eL qf kf 9 ff, eO jb 0 [.ref aq0, .ref aq1, .ref aq2, .ref aq3, .ref aq4, .ref aq5, .ref aq6, .int aacc, .long afees, .int amis, .int abel, .int aref, .int acau], eI aq0 ak0 8 ag0, eI aq1 ak1 8 ag1, eI aq2 ak2 8 ag2, eI aq3 ak3 8 ag3, eI aq4 ak4 8 ag4, eI aq5 ak5 8 ag5, eI aq6 ak6 8 ag6, eO jp 2 [.ref pb, .ref pn, .int ps], eI pb kpb 80 fpb, eI pn kpn 80 fpn] s.heap.size = A at hD ⊢
  have hA : ∀ q : Nat, s.heap.size ≤ q → A q := fun q h => by rw [← hAe]; exact Or.inr h
  have hS : va_S A s.heap s.heap [] := va_S.rf
  have hP : va_P (dC, dI) vwCl [eO h0 5 [.ref jb, .ref qm, .int mc, .ref qh, .ref qk, .ref qf, .int bg, .ref jp], eI qm km 60 fm, eI qh kh 8 fh, eR qk kk 9 fo, eI ro0 kr0 8 fr0, eI ro1 kr1 8 fr1, eI ro2 kr2 8 fr2, eI ro3 kr3 8 fr3, eI ro4 kr4 8 fr4, eI ro5 kr5 8 fr5, eI ro6 kr6 8 fr6, eI ro7 kr7 8 fr7, eI ro8 kr8 8 fr8, eL qf kf 9 ff, eO jb 0 [.ref aq0, .ref aq1, .ref aq2, .ref aq3, .ref aq4, .ref aq5, .ref aq6, .int aacc, .long afees, .int amis, .int abel, .int aref, .int acau], eI aq0 ak0 8 ag0, eI aq1 ak1 8 ag1, eI aq2 ak2 8 ag2, eI aq3 ak3 8 ag3, eI aq4 ak4 8 ag4, eI aq5 ak5 8 ag5, eI aq6 ak6 8 ag6, eO jp 2 [.ref pb, .ref pn, .int ps], eI pb kpb 80 fpb, eI pn kpn 80 fpn] s.heap := hP
  have hl := lv_entry ([.ref h0, .int p0, .int dp]) (n := 5) (Nat.le_of_ble_eq_true rfl)
  rw [lg_entry_eq]
  generalize (lg_sl ([.ref h0, .int p0, .int dp]) ++ List.replicate (5 - (lg_sl ([.ref h0, .int p0, .int dp])).length) Slot.unset).toArray = ls at hl ⊢
  have hl : lv_has ls 5 [(0, .ref h0), (1, .int p0), (2, .int dp)] := hl
  suffices key9 : ∀ Q9 : State → Prop, Q9 = (MQ below (va_Qi (fun (r : Int32) (_ : Unit) => True) (fun (_ : Unit) (t : State) => ∃ (fm' : Nat → Int32), ∃ (fh' : Nat → Int32), ∃ (fr0' : Nat → Int32), ∃ (fr1' : Nat → Int32), ∃ (fr2' : Nat → Int32), ∃ (fr3' : Nat → Int32), ∃ (fr4' : Nat → Int32), ∃ (fr5' : Nat → Int32), ∃ (fr6' : Nat → Int32), ∃ (fr7' : Nat → Int32), ∃ (fr8' : Nat → Int32), ∃ (ff' : Nat → Int64), ∃ (mc' : Int32), ∃ (bg' : Int32), ∃ (ag1' : Nat → Int32), ∃ (ag4' : Nat → Int32), ∃ (ag5' : Nat → Int32), ∃ (ag6' : Nat → Int32), ∃ (afees' : Int64), ∃ (amis' : Int32), ∃ (abel' : Int32), ∃ (aref' : Int32), ∃ (acau' : Int32), (bg.toInt ≤ bg'.toInt) ∧ (bg'.toInt ≤ 500) ∧ (0 ≤ mc'.toInt) ∧ (mc'.toInt + 2 * (500 - bg'.toInt) ≤ mc.toInt + 2 * (500 - bg.toInt) + 2) ∧ va_P (dC, dI) vwCl [eO h0 5 [.ref jb, .ref qm, .int mc', .ref qh, .ref qk, .ref qf, .int bg', .ref jp], eI qm km 60 (fm'), eI qh kh 8 (fh'), eR qk kk 9 fo, eI ro0 kr0 8 (fr0'), eI ro1 kr1 8 (fr1'), eI ro2 kr2 8 (fr2'), eI ro3 kr3 8 (fr3'), eI ro4 kr4 8 (fr4'), eI ro5 kr5 8 (fr5'), eI ro6 kr6 8 (fr6'), eI ro7 kr7 8 (fr7'), eI ro8 kr8 8 (fr8'), eL qf kf 9 (ff'), eO jb 0 [.ref aq0, .ref aq1, .ref aq2, .ref aq3, .ref aq4, .ref aq5, .ref aq6, .int aacc, .long afees', .int amis', .int abel', .int aref', .int acau'], eI aq0 ak0 8 ag0, eI aq1 ak1 8 (ag1'), eI aq2 ak2 8 ag2, eI aq3 ak3 8 ag3, eI aq4 ak4 8 (ag4'), eI aq5 ak5 8 (ag5'), eI aq6 ak6 8 (ag6'), eO jp 2 [.ref pb, .ref pn, .int ps], eI pb kpb 80 fpb, eI pn kpn 80 fpn] t.heap ∧ va_K (dC, dI) vwCl [(km, .int), (kh, .int), (kk, .array .int), (kr0, .int), (kr1, .int), (kr2, .int), (kr3, .int), (kr4, .int), (kr5, .int), (kr6, .int), (kr7, .int), (kr8, .int), (kf, .long), (ak0, .int), (ak1, .int), (ak2, .int), (ak3, .boolean), (ak4, .int), (ak5, .int), (ak6, .int), (kpb, .int), (kpn, .int)] t ∧ va_D A [eO h0 5 [.ref jb, .ref qm, .int mc', .ref qh, .ref qk, .ref qf, .int bg', .ref jp], eI qm km 60 (fm'), eI qh kh 8 (fh'), eR qk kk 9 fo, eI ro0 kr0 8 (fr0'), eI ro1 kr1 8 (fr1'), eI ro2 kr2 8 (fr2'), eI ro3 kr3 8 (fr3'), eI ro4 kr4 8 (fr4'), eI ro5 kr5 8 (fr5'), eI ro6 kr6 8 (fr6'), eI ro7 kr7 8 (fr7'), eI ro8 kr8 8 (fr8'), eL qf kf 9 (ff'), eO jb 0 [.ref aq0, .ref aq1, .ref aq2, .ref aq3, .ref aq4, .ref aq5, .ref aq6, .int aacc, .long afees', .int amis', .int abel', .int aref', .int acau'], eI aq0 ak0 8 ag0, eI aq1 ak1 8 (ag1'), eI aq2 ak2 8 ag2, eI aq3 ak3 8 ag3, eI aq4 ak4 8 (ag4'), eI aq5 ak5 8 (ag5'), eI aq6 ak6 8 (ag6'), eO jp 2 [.ref pb, .ref pn, .int ps], eI pb kpb 80 fpb, eI pn kpn 80 fpn]) A) (([.ref h0, .int p0, .int dp] : List Value).toArray) s 0 0 A) → W p l e ({ frames := 10 * nd + 8, cells := 0, slots := 0, locals := 200 * nd + 120 }) s m (([.ref h0, .int p0, .int dp] : List Value).toArray) below meth c s.heap [] 0 0 Q9 (F0 m 0 ls []) from key9 _ rfl
  intro Q9 hQ9
  have k_0 : (0 : Int32).toInt = 0 := by decide
  have k_1 : (1 : Int32).toInt = 1 := by decide
  have k_2 : (2 : Int32).toInt = 2 := by decide
  have k_3 : (3 : Int32).toInt = 3 := by decide
  have k_10 : (10 : Int32).toInt = 10 := by decide
  have k_20 : (20 : Int32).toInt = 20 := by decide
  refine lv_aload_n hx hb dX6_block_0 rfl (lv_at hl 0 rfl) ?_
  refine va_get (D := (dC, dI)) (ci := 5) (v := .ref jp) (C := RX6) (T := TX6) (N := 8) hx hb hts (fun w h => List.mem_cons_of_mem _ (inlX6 w h)) hown hK hP 0 rfl rfl 7 (by decide) (hts (.fieldLink RX6 41 "ClearingGates$Runner" "program" "LClearingGates$Program;") (List.mem_cons_of_mem _ mw_195)) (fun _ h9 => h9) rfl dX6_block_1 ?_
  refine lv_iload_n hx hb dX6_block_4 rfl (lv_at hl 1 rfl) ?_
  refine lv_iconst (v := 1) hx hb dX6_block_5 (by decide) ?_
  refine lv_iadd hx hb dX6_block_6 ?_
  refine lv_topi (fun z1 e_z1 => ?_)
  (first | have t_z1 := i_add e_z1 (by omega) (by omega) | skip)
  obtain ⟨hPc, hDc, hFc, hCm, hNw⟩ := C_s (wc := [eO jp 2 [.ref pb, .ref pn, .int ps], eI pb kpb 80 fpb]) hP hD hS hA [(22, 2)] 25 rfl (by decide +kernel) rfl
  have hKc := K_s (tys' := [(kpb, .int)]) hK [(20, 1)] rfl
  refine va_calli (va_runV (As := [.int z1]) (rest := []) ⟨hx, hb, hml, hown, hts⟩ (c_X3_figureAt l dC dI jp z1 pb pn ps kpb fpb s.heap.size hp1 hp2) (cwV 1 hts gX6_block_X3_figureAt rfl rfl rfl (by decide +kernel) ⟨(show (1) + 1 ≤ 10 * nd + 8 by omega), (show 8 + (2 + 11) + (21) ≤ 200 * nd + 120 by omega)⟩) ⟨fun a U g mk q => by obtain ⟨q0, q1, qP, qK, qD⟩ := q; exact ⟨q0, q1, qP, va_K.moved (u := U) (U := U.calling g mk a) (Vm.Alike.refl U.vm) qK, qD⟩, va_recv (s := s) (q := (RX3, TX3, 3)) hKc hPc (ci := 2) (q0 := 0) rfl rfl, fun U hU hW => ⟨rfl, by rw [hU], by rw [hU]; exact hPc, va_K.moved hW.alike hKc, hDc.weaken (fun _ _ _ _ => trivial)⟩⟩ rfl rfl hl.1 rfl (lv_room (Nat.le_of_ble_eq_true rfl)) dX6_block_7 ⟨Nat.le_of_ble_eq_true rfl, Nat.le_of_ble_eq_true rfl⟩) hS (fun q _ h => hFc q h) hFc (fun r2 u t H1 locs ht hvm hw hB hz1 hk1 hS => ?_)
  obtain ⟨hP1, hK1, hD1⟩ := hB
  rw [ht] at hP1
  have hK1 := va_K.moved hvm.symm hK1
  try dsimp only at hw
  obtain ⟨hP, hD⟩ := J_s (wL := [eO h0 5 [.ref jb, .ref qm, .int mc, .ref qh, .ref qk, .ref qf, .int bg, .ref jp], eI qm km 60 fm, eI qh kh 8 fh, eR qk kk 9 fo, eI ro0 kr0 8 fr0, eI ro1 kr1 8 fr1, eI ro2 kr2 8 fr2, eI ro3 kr3 8 fr3, eI ro4 kr4 8 fr4, eI ro5 kr5 8 fr5, eI ro6 kr6 8 fr6, eI ro7 kr7 8 fr7, eI ro8 kr8 8 fr8, eL qf kf 9 ff, eO jb 0 [.ref aq0, .ref aq1, .ref aq2, .ref aq3, .ref aq4, .ref aq5, .ref aq6, .int aacc, .long afees, .int amis, .int abel, .int aref, .int acau], eI aq0 ak0 8 ag0, eI aq1 ak1 8 ag1, eI aq2 ak2 8 ag2, eI aq3 ak3 8 ag3, eI aq4 ak4 8 ag4, eI aq5 ak5 8 ag5, eI aq6 ak6 8 ag6, eI pn kpn 80 fpn, eO jp 2 [.ref pb, .ref pn, .int ps], eI pb kpb 80 fpb]) hP hD [(22, 2)] [(0, 22), (24, 1)] hCm hNw (by decide +kernel) hk1 hFc hP1 hD1 rfl
  have hK := KJ_s (tys' := [(km, .int), (kh, .int), (kk, .array .int), (kr0, .int), (kr1, .int), (kr2, .int), (kr3, .int), (kr4, .int), (kr5, .int), (kr6, .int), (kr7, .int), (kr8, .int), (kf, .long), (ak0, .int), (ak1, .int), (ak2, .int), (ak3, .boolean), (ak4, .int), (ak5, .int), (ak6, .int), (kpn, .int), (kpb, .int)]) hK hK1 [(0, 20), (21, 1)] rfl
  generalize H1 = H at hP hS ⊢
  refine lv_istore_n (lv' := [(3, .int r2), (0, .ref h0), (1, .int p0), (2, .int dp)]) hx hb dX6_block_10 rfl hl (by decide) rfl (fun ls hl => ?_)
  refine lv_aload_n hx hb dX6_block_11 rfl (lv_at hl 1 rfl) ?_
  refine va_get (D := (dC, dI)) (ci := 5) (v := .ref jb) (C := RX6) (T := TX6) (N := 8) hx hb hts (fun w h => List.mem_cons_of_mem _ (inlX6 w h)) hown hK hP 0 rfl rfl 0 (by decide) (hts (.fieldLink RX6 27 "ClearingGates$Runner" "books" "LClearingGates$Books;") (List.mem_cons_of_mem _ mw_185)) (fun _ h9 => h9) rfl dX6_block_12 ?_
  refine lv_iload_n hx hb dX6_block_15 rfl (lv_at hl 0 rfl) ?_
  obtain ⟨hPc, hDc, hFc, hCm, hNw⟩ := C_s (wc := [eO jb 0 [.ref aq0, .ref aq1, .ref aq2, .ref aq3, .ref aq4, .ref aq5, .ref aq6, .int aacc, .long afees, .int amis, .int abel, .int aref, .int acau], eI aq3 ak3 8 ag3]) hP hD hS hA [(14, 1), (18, 1)] 25 rfl (by decide +kernel) rfl
  have hKc := K_s (tys' := [(ak3, .boolean)]) hK [(16, 1)] rfl
  refine va_calli (va_runV (As := [.int r2]) (rest := []) ⟨hx, hb, hml, hown, hts⟩ (c_X0_hasGate l dC dI jb r2 (.ref aq0) (.ref aq1) (.ref aq2) aq3 (.ref aq4) (.ref aq5) (.ref aq6) aacc (.long afees) (.int amis) (.int abel) (.int aref) (.int acau) ak3 ag3 H.size ra2) (cwV 1 hts gX6_block_X0_hasGate rfl rfl rfl (by decide +kernel) ⟨(show (1) + 1 ≤ 10 * nd + 8 by omega), (show 8 + (2 + 11) + (21) ≤ 200 * nd + 120 by omega)⟩) ⟨fun a U g mk q => by obtain ⟨q0, q1, qP, qK, qD⟩ := q; exact ⟨q0, q1, qP, va_K.moved (u := U) (U := U.calling g mk a) (Vm.Alike.refl U.vm) qK, qD⟩, va_recv (s := s) (q := (RX0, TX0, 13)) hKc hPc (ci := 0) (q0 := 0) rfl rfl, fun U hU hW => ⟨rfl, by rw [hU], by rw [hU]; exact hPc, va_K.moved hW.alike hKc, hDc.weaken (fun _ _ _ _ => trivial)⟩⟩ rfl rfl hl.1 rfl (lv_room (Nat.le_of_ble_eq_true rfl)) dX6_block_16 ⟨Nat.le_of_ble_eq_true rfl, Nat.le_of_ble_eq_true rfl⟩) hS (fun q _ h => hFc q h) hFc (fun r3 u t H1 locs ht hvm hw hB hz1 hk1 hS => ?_)
  obtain ⟨hP1, hK1, hD1⟩ := hB
  rw [ht] at hP1
  have hK1 := va_K.moved hvm.symm hK1
  try dsimp only at hw
  obtain ⟨hP, hD⟩ := J_s (wL := [eO h0 5 [.ref jb, .ref qm, .int mc, .ref qh, .ref qk, .ref qf, .int bg, .ref jp], eI qm km 60 fm, eI qh kh 8 fh, eR qk kk 9 fo, eI ro0 kr0 8 fr0, eI ro1 kr1 8 fr1, eI ro2 kr2 8 fr2, eI ro3 kr3 8 fr3, eI ro4 kr4 8 fr4, eI ro5 kr5 8 fr5, eI ro6 kr6 8 fr6, eI ro7 kr7 8 fr7, eI ro8 kr8 8 fr8, eL qf kf 9 ff, eI aq0 ak0 8 ag0, eI aq1 ak1 8 ag1, eI aq2 ak2 8 ag2, eI aq4 ak4 8 ag4, eI aq5 ak5 8 ag5, eI aq6 ak6 8 ag6, eI pn kpn 80 fpn, eO jp 2 [.ref pb, .ref pn, .int ps], eI pb kpb 80 fpb, eO jb 0 [.ref aq0, .ref aq1, .ref aq2, .ref aq3, .ref aq4, .ref aq5, .ref aq6, .int aacc, .long afees, .int amis, .int abel, .int aref, .int acau], eI aq3 ak3 8 ag3]) hP hD [(14, 1), (18, 1)] [(0, 14), (15, 3), (19, 6)] hCm hNw (by decide +kernel) hk1 hFc hP1 hD1 rfl
  have hK := KJ_s (tys' := [(km, .int), (kh, .int), (kk, .array .int), (kr0, .int), (kr1, .int), (kr2, .int), (kr3, .int), (kr4, .int), (kr5, .int), (kr6, .int), (kr7, .int), (kr8, .int), (kf, .long), (ak0, .int), (ak1, .int), (ak2, .int), (ak4, .int), (ak5, .int), (ak6, .int), (kpn, .int), (kpb, .int), (ak3, .boolean)]) hK hK1 [(0, 16), (17, 5)] rfl
  generalize H1 = H at hP hS ⊢
  rcases hw with ⟨e_r3, f_r3⟩ | ⟨e_r3, f_r3⟩
  · subst e_r3
    refine lv_if_ne (tgt := 37) hx hb dX6_block_19 (by decide) (fun c4 => ?_) (fun c4 => absurd c4 (by decide))
    refine lv_aload_n hx hb dX6_block_37 rfl (lv_at hl 1 rfl) ?_
    refine va_get (D := (dC, dI)) (ci := 5) (v := .ref qh) (C := RX6) (T := TX6) (N := 8) hx hb hts (fun w h => List.mem_cons_of_mem _ (inlX6 w h)) hown hK hP 0 rfl rfl 3 (by decide) (hts (.fieldLink RX6 15 "ClearingGates$Runner" "held" "[I") (List.mem_cons_of_mem _ mw_191)) (fun _ h9 => h9) rfl dX6_block_38 ?_
    refine lv_iload_n hx hb dX6_block_41 rfl (lv_at hl 0 rfl) ?_
    refine va_iald (D := (dC, dI)) hx hb hK hP 2 1 rfl rfl (vp_in_iff.mpr ⟨by omega, by omega⟩) dX6_block_42 ?_
    refine lv_topi (fun z5 e_z5 => ?_)
    refine lv_if_ne (tgt := 56) hx hb dX6_block_43 (by decide) (fun c6 => ?_) (fun c6 => ?_)
    · skip
      have f_c6 := i_ne c6
      refine lv_aload_n hx hb dX6_block_56 rfl (lv_at hl 1 rfl) ?_
      refine va_get (D := (dC, dI)) (ci := 5) (v := .ref jb) (C := RX6) (T := TX6) (N := 8) hx hb hts (fun w h => List.mem_cons_of_mem _ (inlX6 w h)) hown hK hP 0 rfl rfl 0 (by decide) (hts (.fieldLink RX6 27 "ClearingGates$Runner" "books" "LClearingGates$Books;") (List.mem_cons_of_mem _ mw_185)) (fun _ h9 => h9) rfl dX6_block_57 ?_
      refine va_get (D := (dC, dI)) (ci := 0) (v := .ref aq4) (C := RX0) (T := TX0) (N := 13) hx hb hts (fun w h => List.mem_cons_of_mem _ (inlX0 w h)) hown hK hP 23 rfl rfl 4 (by decide) (hts (.fieldLink RX6 107 "ClearingGates$Books" "entries" "[I") (List.mem_cons_of_mem _ mw_105)) (fun _ h9 => h9) rfl dX6_block_60 ?_
      refine lv_iload_n hx hb dX6_block_63 rfl (lv_at hl 0 rfl) ?_
      refine lv_dup2_11 hx hb dX6_block_64 rfl rfl ?_
      refine va_iald (D := (dC, dI)) hx hb hK hP 17 16 rfl rfl (vp_in_iff.mpr ⟨by omega, by omega⟩) dX6_block_65 ?_
      refine lv_topi (fun z7 e_z7 => ?_)
      refine lv_iconst (v := 1) hx hb dX6_block_66 (by decide) ?_
      refine lv_iadd hx hb dX6_block_67 ?_
      refine lv_topi (fun z8 e_z8 => ?_)
      (first | have t_z8 := i_add e_z8 (by omega) (by omega) | skip)
      refine va_iast (D := (dC, dI)) hx hb hK hP hD hS 17 16 rfl rfl (vp_in_iff.mpr ⟨by omega, by omega⟩) dX6_block_68 (fun H locs hP hD hS => ?_)
      generalize e_g9 : (upd ag4 (r2).toNatClampNeg z8) = g9 at hP hD
      obtain ⟨hP, hD⟩ := X_s (ws' := [eO h0 5 [.ref jb, .ref qm, .int mc, .ref qh, .ref qk, .ref qf, .int bg, .ref jp], eI qm km 60 fm, eI qh kh 8 fh, eR qk kk 9 fo, eI ro0 kr0 8 fr0, eI ro1 kr1 8 fr1, eI ro2 kr2 8 fr2, eI ro3 kr3 8 fr3, eI ro4 kr4 8 fr4, eI ro5 kr5 8 fr5, eI ro6 kr6 8 fr6, eI ro7 kr7 8 fr7, eI ro8 kr8 8 fr8, eL qf kf 9 ff, eI aq0 ak0 8 ag0, eI aq1 ak1 8 ag1, eI aq2 ak2 8 ag2, eI aq4 ak4 8 g9, eI aq5 ak5 8 ag5, eI aq6 ak6 8 ag6, eI pn kpn 80 fpn, eO jp 2 [.ref pb, .ref pn, .int ps], eI pb kpb 80 fpb, eO jb 0 [.ref aq0, .ref aq1, .ref aq2, .ref aq3, .ref aq4, .ref aq5, .ref aq6, .int aacc, .long afees, .int amis, .int abel, .int aref, .int acau], eI aq3 ak3 8 ag3]) hP hD rfl
      refine lv_aload_n hx hb dX6_block_69 rfl (lv_at hl 1 rfl) ?_
      refine va_get (D := (dC, dI)) (ci := 5) (v := .ref qh) (C := RX6) (T := TX6) (N := 8) hx hb hts (fun w h => List.mem_cons_of_mem _ (inlX6 w h)) hown hK hP 0 rfl rfl 3 (by decide) (hts (.fieldLink RX6 15 "ClearingGates$Runner" "held" "[I") (List.mem_cons_of_mem _ mw_191)) (fun _ h9 => h9) rfl dX6_block_70 ?_
      refine lv_iload_n hx hb dX6_block_73 rfl (lv_at hl 0 rfl) ?_
      refine va_iald (D := (dC, dI)) hx hb hK hP 2 1 rfl rfl (vp_in_iff.mpr ⟨by omega, by omega⟩) dX6_block_74 ?_
      refine lv_topi (fun z10 e_z10 => ?_)
      refine lv_if_le (tgt := 91) hx hb dX6_block_75 (by decide) (fun c11 => ?_) (fun c11 => ?_)
      · skip
        have f_c11 := i_le c11
        refine lv_aload_n hx hb dX6_block_91 rfl (lv_at hl 1 rfl) ?_
        refine va_get (D := (dC, dI)) (ci := 5) (v := .ref qh) (C := RX6) (T := TX6) (N := 8) hx hb hts (fun w h => List.mem_cons_of_mem _ (inlX6 w h)) hown hK hP 0 rfl rfl 3 (by decide) (hts (.fieldLink RX6 15 "ClearingGates$Runner" "held" "[I") (List.mem_cons_of_mem _ mw_191)) (fun _ h9 => h9) rfl dX6_block_92 ?_
        refine lv_iload_n hx hb dX6_block_95 rfl (lv_at hl 0 rfl) ?_
        refine lv_dup2_11 hx hb dX6_block_96 rfl rfl ?_
        refine va_iald (D := (dC, dI)) hx hb hK hP 2 1 rfl rfl (vp_in_iff.mpr ⟨by omega, by omega⟩) dX6_block_97 ?_
        refine lv_topi (fun z12 e_z12 => ?_)
        refine lv_iconst (v := 1) hx hb dX6_block_98 (by decide) ?_
        refine lv_iadd hx hb dX6_block_99 ?_
        refine lv_topi (fun z13 e_z13 => ?_)
        (first | have t_z13 := i_add e_z13 (by omega) (by omega) | skip)
        refine va_iast (D := (dC, dI)) hx hb hK hP hD hS 2 1 rfl rfl (vp_in_iff.mpr ⟨by omega, by omega⟩) dX6_block_100 (fun H locs hP hD hS => ?_)
        generalize e_g14 : (upd fh (r2).toNatClampNeg z13) = g14 at hP hD
        obtain ⟨hP, hD⟩ := X_s (ws' := [eO h0 5 [.ref jb, .ref qm, .int mc, .ref qh, .ref qk, .ref qf, .int bg, .ref jp], eI qm km 60 fm, eI qh kh 8 g14, eR qk kk 9 fo, eI ro0 kr0 8 fr0, eI ro1 kr1 8 fr1, eI ro2 kr2 8 fr2, eI ro3 kr3 8 fr3, eI ro4 kr4 8 fr4, eI ro5 kr5 8 fr5, eI ro6 kr6 8 fr6, eI ro7 kr7 8 fr7, eI ro8 kr8 8 fr8, eL qf kf 9 ff, eI aq0 ak0 8 ag0, eI aq1 ak1 8 ag1, eI aq2 ak2 8 ag2, eI aq4 ak4 8 g9, eI aq5 ak5 8 ag5, eI aq6 ak6 8 ag6, eI pn kpn 80 fpn, eO jp 2 [.ref pb, .ref pn, .int ps], eI pb kpb 80 fpb, eO jb 0 [.ref aq0, .ref aq1, .ref aq2, .ref aq3, .ref aq4, .ref aq5, .ref aq6, .int aacc, .long afees, .int amis, .int abel, .int aref, .int acau], eI aq3 ak3 8 ag3]) hP hD rfl
        refine lv_aload_n hx hb dX6_block_101 rfl (lv_at hl 1 rfl) ?_
        refine lv_bipush (v := 10) hx hb dX6_block_102 (by decide) ?_
        refine lv_iload_n hx hb dX6_block_104 rfl (lv_at hl 0 rfl) ?_
        refine lv_iadd hx hb dX6_block_105 ?_
        refine lv_topi (fun z15 e_z15 => ?_)
        (first | have t_z15 := i_add e_z15 (by omega) (by omega) | skip)
        obtain ⟨hPc, hDc, hFc, hCm, hNw⟩ := C_s (wc := [eO h0 5 [.ref jb, .ref qm, .int mc, .ref qh, .ref qk, .ref qf, .int bg, .ref jp], eI qm km 60 fm]) hP hD hS hA [(0, 2)] 25 rfl (by decide +kernel) rfl
        have hKc := K_s (tys' := [(km, .int)]) hK [(0, 1)] rfl
        refine va_callv (va_runV (As := [.int z15]) (rest := []) ⟨hx, hb, hml, hown, hts⟩ (c_X6_mark l dC dI h0 z15 jb qm mc qh qk qf bg jp km fm H.size rb3 (by first | assumption | omega)) (cwV 1 hts gX6_block_X6_mark rfl rfl rfl (by decide +kernel) ⟨(show (0) + 1 ≤ 10 * nd + 8 by omega), (show 8 + (2 + 11) + (0) ≤ 200 * nd + 120 by omega)⟩) ⟨fun a U g mk q => by obtain ⟨q0, q1, qP, qK, qD⟩ := q; exact ⟨q0, q1, qP, va_K.moved (u := U) (U := U.calling g mk a) (Vm.Alike.refl U.vm) qK, qD⟩, va_recv (s := s) (q := (RX6, TX6, 8)) hKc hPc (ci := 5) (q0 := 0) rfl rfl, fun U hU hW => ⟨rfl, by rw [hU], by rw [hU]; exact hPc, va_K.moved hW.alike hKc, hDc.weaken (fun _ _ _ _ => trivial)⟩⟩ rfl rfl hl.1 rfl (lv_room (Nat.le_of_ble_eq_true rfl)) dX6_block_106 ⟨Nat.le_of_ble_eq_true rfl, Nat.le_of_ble_eq_true rfl⟩) hS (fun q _ h => hFc q h) hFc (fun u t H1 locs ht hvm hw hB hz1 hk1 hS => ?_)
        obtain ⟨q17, q18, x1_r16, hP1, hK1, hD1⟩ := hB
        rw [ht] at hP1
        have hK1 := va_K.moved hvm.symm hK1
        try dsimp only at hw
        obtain ⟨hP, hD⟩ := J_s (wL := [eI qh kh 8 g14, eR qk kk 9 fo, eI ro0 kr0 8 fr0, eI ro1 kr1 8 fr1, eI ro2 kr2 8 fr2, eI ro3 kr3 8 fr3, eI ro4 kr4 8 fr4, eI ro5 kr5 8 fr5, eI ro6 kr6 8 fr6, eI ro7 kr7 8 fr7, eI ro8 kr8 8 fr8, eL qf kf 9 ff, eI aq0 ak0 8 ag0, eI aq1 ak1 8 ag1, eI aq2 ak2 8 ag2, eI aq4 ak4 8 g9, eI aq5 ak5 8 ag5, eI aq6 ak6 8 ag6, eI pn kpn 80 fpn, eO jp 2 [.ref pb, .ref pn, .int ps], eI pb kpb 80 fpb, eO jb 0 [.ref aq0, .ref aq1, .ref aq2, .ref aq3, .ref aq4, .ref aq5, .ref aq6, .int aacc, .long afees, .int amis, .int abel, .int aref, .int acau], eI aq3 ak3 8 ag3, eO h0 5 [.ref jb, .ref qm, .int q18, .ref qh, .ref qk, .ref qf, .int bg, .ref jp], eI qm km 60 q17]) hP hD [(0, 2)] [(2, 23)] hCm hNw (by decide +kernel) hk1 hFc hP1 hD1 rfl
        have hK := KJ_s (tys' := [(kh, .int), (kk, .array .int), (kr0, .int), (kr1, .int), (kr2, .int), (kr3, .int), (kr4, .int), (kr5, .int), (kr6, .int), (kr7, .int), (kr8, .int), (kf, .long), (ak0, .int), (ak1, .int), (ak2, .int), (ak4, .int), (ak5, .int), (ak6, .int), (kpn, .int), (kpb, .int), (ak3, .boolean), (km, .int)]) hK hK1 [(1, 21)] rfl
        generalize H1 = H at hP hS ⊢
        refine lv_aload_n hx hb dX6_block_109 rfl (lv_at hl 1 rfl) ?_
        refine lv_iload_n hx hb dX6_block_110 rfl (lv_at hl 2 rfl) ?_
        refine lv_iload_n hx hb dX6_block_111 rfl (lv_at hl 2 rfl) ?_
        refine lv_iconst (v := 2) hx hb dX6_block_112 (by decide) ?_
        refine lv_iadd hx hb dX6_block_113 ?_
        refine lv_topi (fun z19 e_z19 => ?_)
        (first | have t_z19 := i_add e_z19 (by omega) (by omega) | skip)
        refine lv_iload_n hx hb dX6_block_114 rfl (lv_at hl 3 rfl) ?_
        obtain ⟨hPc, hDc, hFc, hCm, hNw⟩ := C_s (wc := [eO h0 5 [.ref jb, .ref qm, .int q18, .ref qh, .ref qk, .ref qf, .int bg, .ref jp], eI qm km 60 q17, eI qh kh 8 g14, eR qk kk 9 fo, eI ro0 kr0 8 fr0, eI ro1 kr1 8 fr1, eI ro2 kr2 8 fr2, eI ro3 kr3 8 fr3, eI ro4 kr4 8 fr4, eI ro5 kr5 8 fr5, eI ro6 kr6 8 fr6, eI ro7 kr7 8 fr7, eI ro8 kr8 8 fr8, eL qf kf 9 ff, eO jb 0 [.ref aq0, .ref aq1, .ref aq2, .ref aq3, .ref aq4, .ref aq5, .ref aq6, .int aacc, .long afees, .int amis, .int abel, .int aref, .int acau], eI aq0 ak0 8 ag0, eI aq1 ak1 8 ag1, eI aq2 ak2 8 ag2, eI aq3 ak3 8 ag3, eI aq4 ak4 8 g9, eI aq5 ak5 8 ag5, eI aq6 ak6 8 ag6, eO jp 2 [.ref pb, .ref pn, .int ps], eI pb kpb 80 fpb, eI pn kpn 80 fpn]) hP hD hS hA [(23, 2), (0, 12), (21, 1), (12, 3), (22, 1), (15, 3), (19, 2), (18, 1)] 25 rfl (by decide +kernel) rfl
        have hKc := K_s (tys' := [(km, .int), (kh, .int), (kk, .array .int), (kr0, .int), (kr1, .int), (kr2, .int), (kr3, .int), (kr4, .int), (kr5, .int), (kr6, .int), (kr7, .int), (kr8, .int), (kf, .long), (ak0, .int), (ak1, .int), (ak2, .int), (ak3, .boolean), (ak4, .int), (ak5, .int), (ak6, .int), (kpb, .int), (kpn, .int)]) hK [(21, 1), (0, 15), (20, 1), (15, 3), (19, 1), (18, 1)] rfl
        refine va_calli (va_runV (As := [.int p0, .int z19, .int dp]) (rest := []) ⟨hx, hb, hml, hown, hts⟩ (c_X6_inside l dC dI h0 p0 z19 dp jb qm q18 qh qk qf bg jp km q17 kh g14 kk fo ro0 kr0 fr0 ro1 kr1 fr1 ro2 kr2 fr2 ro3 kr3 fr3 ro4 kr4 fr4 ro5 kr5 fr5 ro6 kr6 fr6 ro7 kr7 fr7 ro8 kr8 fr8 kf ff aq0 aq1 aq2 aq3 aq4 aq5 aq6 aacc afees amis abel aref acau ak0 ag0 ak1 ag1 ak2 ag2 ak3 ag3 ak4 g9 ak5 ag5 ak6 ag6 pb pn ps kpb fpb kpn fpn nd H.size ra1 ra2 hp1 hp2 hb0 hf0 hf1 hf2 hf3 hf4 hf5 hf6 hf7 hf8 rb1 rb2 (by first | assumption | omega) (by first | assumption | omega) pl1 pl2 (by first | assumption | omega) (by first | assumption | omega) hd0 hdn ih) (cwV 3 hts gX6_block_X6_inside rfl rfl rfl (by decide +kernel) ⟨(show (10 * nd + 7) + 1 ≤ 10 * nd + 8 by omega), (show 8 + (4 + 11) + (200 * nd + 80) ≤ 200 * nd + 120 by omega)⟩) ⟨fun a U g mk q => by obtain ⟨q0, q1, qP, qK, qD⟩ := q; exact ⟨q0, q1, qP, va_K.moved (u := U) (U := U.calling g mk a) (Vm.Alike.refl U.vm) qK, qD⟩, va_recv (s := s) (q := (RX6, TX6, 8)) hKc hPc (ci := 5) (q0 := 0) rfl rfl, fun U hU hW => ⟨rfl, by rw [hU], by rw [hU]; exact hPc, va_K.moved hW.alike hKc, hDc.weaken (fun _ _ _ _ => trivial)⟩⟩ rfl rfl hl.1 rfl (lv_room (Nat.le_of_ble_eq_true rfl)) dX6_block_115 ⟨Nat.le_of_ble_eq_true rfl, Nat.le_of_ble_eq_true rfl⟩) hS (fun q _ h => hFc q h) hFc (fun r20 u t H1 locs ht hvm hw hB hz1 hk1 hS => ?_)
        refine Exists.elim hB ?_; clear hB; intro q21 hB
        refine Exists.elim hB ?_; clear hB; intro q22 hB
        refine Exists.elim hB ?_; clear hB; intro q23 hB
        refine Exists.elim hB ?_; clear hB; intro q24 hB
        refine Exists.elim hB ?_; clear hB; intro q25 hB
        refine Exists.elim hB ?_; clear hB; intro q26 hB
        refine Exists.elim hB ?_; clear hB; intro q27 hB
        refine Exists.elim hB ?_; clear hB; intro q28 hB
        refine Exists.elim hB ?_; clear hB; intro q29 hB
        refine Exists.elim hB ?_; clear hB; intro q30 hB
        refine Exists.elim hB ?_; clear hB; intro q31 hB
        refine Exists.elim hB ?_; clear hB; intro q32 hB
        refine Exists.elim hB ?_; clear hB; intro q33 hB
        refine Exists.elim hB ?_; clear hB; intro q34 hB
        refine Exists.elim hB ?_; clear hB; intro q35 hB
        refine Exists.elim hB ?_; clear hB; intro q36 hB
        refine Exists.elim hB ?_; clear hB; intro q37 hB
        refine Exists.elim hB ?_; clear hB; intro q38 hB
        refine Exists.elim hB ?_; clear hB; intro q39 hB
        refine Exists.elim hB ?_; clear hB; intro q40 hB
        refine Exists.elim hB ?_; clear hB; intro q41 hB
        refine Exists.elim hB ?_; clear hB; intro q42 hB
        refine Exists.elim hB ?_; clear hB; intro q43 hB
        have x1_r20 := hB.1
        replace hB := hB.2
        have x2_r20 := hB.1
        replace hB := hB.2
        have x3_r20 := hB.1
        replace hB := hB.2
        have x4_r20 := hB.1
        replace hB := hB.2
        obtain ⟨hP1, hK1, hD1⟩ := hB
        rw [ht] at hP1
        have hK1 := va_K.moved hvm.symm hK1
        try dsimp only at hw
        obtain ⟨hP, hD⟩ := J_s (wL := [eO h0 5 [.ref jb, .ref qm, .int q33, .ref qh, .ref qk, .ref qf, .int q34, .ref jp], eI qm km 60 q21, eI qh kh 8 q22, eR qk kk 9 fo, eI ro0 kr0 8 q23, eI ro1 kr1 8 q24, eI ro2 kr2 8 q25, eI ro3 kr3 8 q26, eI ro4 kr4 8 q27, eI ro5 kr5 8 q28, eI ro6 kr6 8 q29, eI ro7 kr7 8 q30, eI ro8 kr8 8 q31, eL qf kf 9 q32, eO jb 0 [.ref aq0, .ref aq1, .ref aq2, .ref aq3, .ref aq4, .ref aq5, .ref aq6, .int aacc, .long q39, .int q40, .int q41, .int q42, .int q43], eI aq0 ak0 8 ag0, eI aq1 ak1 8 q35, eI aq2 ak2 8 ag2, eI aq3 ak3 8 ag3, eI aq4 ak4 8 q36, eI aq5 ak5 8 q37, eI aq6 ak6 8 q38, eO jp 2 [.ref pb, .ref pn, .int ps], eI pb kpb 80 fpb, eI pn kpn 80 fpn]) hP hD [(23, 2), (0, 12), (21, 1), (12, 3), (22, 1), (15, 3), (19, 2), (18, 1)] [] hCm hNw (by decide +kernel) hk1 hFc hP1 hD1 rfl
        have hK := KJ_s (tys' := [(km, .int), (kh, .int), (kk, .array .int), (kr0, .int), (kr1, .int), (kr2, .int), (kr3, .int), (kr4, .int), (kr5, .int), (kr6, .int), (kr7, .int), (kr8, .int), (kf, .long), (ak0, .int), (ak1, .int), (ak2, .int), (ak3, .boolean), (ak4, .int), (ak5, .int), (ak6, .int), (kpb, .int), (kpn, .int)]) hK hK1 [] rfl
        generalize H1 = H at hP hS ⊢
        refine lv_istore (lv' := [(4, .int r20), (3, .int r2), (0, .ref h0), (1, .int p0), (2, .int dp)]) hx hb dX6_block_118 hl (by decide) rfl (fun ls hl => ?_)
        refine lv_aload_n hx hb dX6_block_120 rfl (lv_at hl 2 rfl) ?_
        refine va_get (D := (dC, dI)) (ci := 5) (v := .ref qh) (C := RX6) (T := TX6) (N := 8) hx hb hts (fun w h => List.mem_cons_of_mem _ (inlX6 w h)) hown hK hP 0 rfl rfl 3 (by decide) (hts (.fieldLink RX6 15 "ClearingGates$Runner" "held" "[I") (List.mem_cons_of_mem _ mw_191)) (fun _ h9 => h9) rfl dX6_block_121 ?_
        refine lv_iload_n hx hb dX6_block_124 rfl (lv_at hl 1 rfl) ?_
        refine lv_dup2_11 hx hb dX6_block_125 rfl rfl ?_
        refine va_iald (D := (dC, dI)) hx hb hK hP 2 1 rfl rfl (vp_in_iff.mpr ⟨by omega, by omega⟩) dX6_block_126 ?_
        refine lv_topi (fun z44 e_z44 => ?_)
        refine lv_iconst (v := 1) hx hb dX6_block_127 (by decide) ?_
        refine lv_isub hx hb dX6_block_128 ?_
        refine lv_topi (fun z45 e_z45 => ?_)
        (first | have t_z45 := i_sub e_z45 (by omega) (by omega) | skip)
        refine va_iast (D := (dC, dI)) hx hb hK hP hD hS 2 1 rfl rfl (vp_in_iff.mpr ⟨by omega, by omega⟩) dX6_block_129 (fun H locs hP hD hS => ?_)
        generalize e_g46 : (upd q22 (r2).toNatClampNeg z45) = g46 at hP hD
        obtain ⟨hP, hD⟩ := X_s (ws' := [eO h0 5 [.ref jb, .ref qm, .int q33, .ref qh, .ref qk, .ref qf, .int q34, .ref jp], eI qm km 60 q21, eI qh kh 8 g46, eR qk kk 9 fo, eI ro0 kr0 8 q23, eI ro1 kr1 8 q24, eI ro2 kr2 8 q25, eI ro3 kr3 8 q26, eI ro4 kr4 8 q27, eI ro5 kr5 8 q28, eI ro6 kr6 8 q29, eI ro7 kr7 8 q30, eI ro8 kr8 8 q31, eL qf kf 9 q32, eO jb 0 [.ref aq0, .ref aq1, .ref aq2, .ref aq3, .ref aq4, .ref aq5, .ref aq6, .int aacc, .long q39, .int q40, .int q41, .int q42, .int q43], eI aq0 ak0 8 ag0, eI aq1 ak1 8 q35, eI aq2 ak2 8 ag2, eI aq3 ak3 8 ag3, eI aq4 ak4 8 q36, eI aq5 ak5 8 q37, eI aq6 ak6 8 q38, eO jp 2 [.ref pb, .ref pn, .int ps], eI pb kpb 80 fpb, eI pn kpn 80 fpn]) hP hD rfl
        refine lv_aload_n hx hb dX6_block_130 rfl (lv_at hl 2 rfl) ?_
        refine va_get (D := (dC, dI)) (ci := 5) (v := .ref jb) (C := RX6) (T := TX6) (N := 8) hx hb hts (fun w h => List.mem_cons_of_mem _ (inlX6 w h)) hown hK hP 0 rfl rfl 0 (by decide) (hts (.fieldLink RX6 27 "ClearingGates$Runner" "books" "LClearingGates$Books;") (List.mem_cons_of_mem _ mw_185)) (fun _ h9 => h9) rfl dX6_block_131 ?_
        refine va_get (D := (dC, dI)) (ci := 0) (v := .ref aq5) (C := RX0) (T := TX0) (N := 13) hx hb hts (fun w h => List.mem_cons_of_mem _ (inlX0 w h)) hown hK hP 14 rfl rfl 5 (by decide) (hts (.fieldLink RX6 119 "ClearingGates$Books" "leavings" "[I") (List.mem_cons_of_mem _ mw_108)) (fun _ h9 => h9) rfl dX6_block_134 ?_
        refine lv_iload_n hx hb dX6_block_137 rfl (lv_at hl 1 rfl) ?_
        refine lv_dup2_11 hx hb dX6_block_138 rfl rfl ?_
        refine va_iald (D := (dC, dI)) hx hb hK hP 20 18 rfl rfl (vp_in_iff.mpr ⟨by omega, by omega⟩) dX6_block_139 ?_
        refine lv_topi (fun z47 e_z47 => ?_)
        refine lv_iconst (v := 1) hx hb dX6_block_140 (by decide) ?_
        refine lv_iadd hx hb dX6_block_141 ?_
        refine lv_topi (fun z48 e_z48 => ?_)
        (first | have t_z48 := i_add e_z48 (by omega) (by omega) | skip)
        refine va_iast (D := (dC, dI)) hx hb hK hP hD hS 20 18 rfl rfl (vp_in_iff.mpr ⟨by omega, by omega⟩) dX6_block_142 (fun H locs hP hD hS => ?_)
        generalize e_g49 : (upd q37 (r2).toNatClampNeg z48) = g49 at hP hD
        obtain ⟨hP, hD⟩ := X_s (ws' := [eO h0 5 [.ref jb, .ref qm, .int q33, .ref qh, .ref qk, .ref qf, .int q34, .ref jp], eI qm km 60 q21, eI qh kh 8 g46, eR qk kk 9 fo, eI ro0 kr0 8 q23, eI ro1 kr1 8 q24, eI ro2 kr2 8 q25, eI ro3 kr3 8 q26, eI ro4 kr4 8 q27, eI ro5 kr5 8 q28, eI ro6 kr6 8 q29, eI ro7 kr7 8 q30, eI ro8 kr8 8 q31, eL qf kf 9 q32, eO jb 0 [.ref aq0, .ref aq1, .ref aq2, .ref aq3, .ref aq4, .ref aq5, .ref aq6, .int aacc, .long q39, .int q40, .int q41, .int q42, .int q43], eI aq0 ak0 8 ag0, eI aq1 ak1 8 q35, eI aq2 ak2 8 ag2, eI aq3 ak3 8 ag3, eI aq4 ak4 8 q36, eI aq5 ak5 8 g49, eI aq6 ak6 8 q38, eO jp 2 [.ref pb, .ref pn, .int ps], eI pb kpb 80 fpb, eI pn kpn 80 fpn]) hP hD rfl
        refine lv_aload_n hx hb dX6_block_143 rfl (lv_at hl 2 rfl) ?_
        refine lv_bipush (v := 20) hx hb dX6_block_144 (by decide) ?_
        refine lv_iload_n hx hb dX6_block_146 rfl (lv_at hl 1 rfl) ?_
        refine lv_iadd hx hb dX6_block_147 ?_
        refine lv_topi (fun z50 e_z50 => ?_)
        (first | have t_z50 := i_add e_z50 (by omega) (by omega) | skip)
        obtain ⟨hPc, hDc, hFc, hCm, hNw⟩ := C_s (wc := [eO h0 5 [.ref jb, .ref qm, .int q33, .ref qh, .ref qk, .ref qf, .int q34, .ref jp], eI qm km 60 q21]) hP hD hS hA [(0, 2)] 25 rfl (by decide +kernel) rfl
        have hKc := K_s (tys' := [(km, .int)]) hK [(0, 1)] rfl
        refine va_callv (va_runV (As := [.int z50]) (rest := []) ⟨hx, hb, hml, hown, hts⟩ (c_X6_mark l dC dI h0 z50 jb qm q33 qh qk qf q34 jp km q21 H.size (by first | assumption | omega) (by first | assumption | omega)) (cwV 1 hts gX6_block_X6_mark rfl rfl rfl (by decide +kernel) ⟨(show (0) + 1 ≤ 10 * nd + 8 by omega), (show 8 + (2 + 11) + (0) ≤ 200 * nd + 120 by omega)⟩) ⟨fun a U g mk q => by obtain ⟨q0, q1, qP, qK, qD⟩ := q; exact ⟨q0, q1, qP, va_K.moved (u := U) (U := U.calling g mk a) (Vm.Alike.refl U.vm) qK, qD⟩, va_recv (s := s) (q := (RX6, TX6, 8)) hKc hPc (ci := 5) (q0 := 0) rfl rfl, fun U hU hW => ⟨rfl, by rw [hU], by rw [hU]; exact hPc, va_K.moved hW.alike hKc, hDc.weaken (fun _ _ _ _ => trivial)⟩⟩ rfl rfl hl.1 rfl (lv_room (Nat.le_of_ble_eq_true rfl)) dX6_block_148 ⟨Nat.le_of_ble_eq_true rfl, Nat.le_of_ble_eq_true rfl⟩) hS (fun q _ h => hFc q h) hFc (fun u t H1 locs ht hvm hw hB hz1 hk1 hS => ?_)
        obtain ⟨q52, q53, x1_r51, hP1, hK1, hD1⟩ := hB
        rw [ht] at hP1
        have hK1 := va_K.moved hvm.symm hK1
        try dsimp only at hw
        obtain ⟨hP, hD⟩ := J_s (wL := [eI qh kh 8 g46, eR qk kk 9 fo, eI ro0 kr0 8 q23, eI ro1 kr1 8 q24, eI ro2 kr2 8 q25, eI ro3 kr3 8 q26, eI ro4 kr4 8 q27, eI ro5 kr5 8 q28, eI ro6 kr6 8 q29, eI ro7 kr7 8 q30, eI ro8 kr8 8 q31, eL qf kf 9 q32, eO jb 0 [.ref aq0, .ref aq1, .ref aq2, .ref aq3, .ref aq4, .ref aq5, .ref aq6, .int aacc, .long q39, .int q40, .int q41, .int q42, .int q43], eI aq0 ak0 8 ag0, eI aq1 ak1 8 q35, eI aq2 ak2 8 ag2, eI aq3 ak3 8 ag3, eI aq4 ak4 8 q36, eI aq5 ak5 8 g49, eI aq6 ak6 8 q38, eO jp 2 [.ref pb, .ref pn, .int ps], eI pb kpb 80 fpb, eI pn kpn 80 fpn, eO h0 5 [.ref jb, .ref qm, .int q53, .ref qh, .ref qk, .ref qf, .int q34, .ref jp], eI qm km 60 q52]) hP hD [(0, 2)] [(2, 23)] hCm hNw (by decide +kernel) hk1 hFc hP1 hD1 rfl
        have hK := KJ_s (tys' := [(kh, .int), (kk, .array .int), (kr0, .int), (kr1, .int), (kr2, .int), (kr3, .int), (kr4, .int), (kr5, .int), (kr6, .int), (kr7, .int), (kr8, .int), (kf, .long), (ak0, .int), (ak1, .int), (ak2, .int), (ak3, .boolean), (ak4, .int), (ak5, .int), (ak6, .int), (kpb, .int), (kpn, .int), (km, .int)]) hK hK1 [(1, 21)] rfl
        generalize H1 = H at hP hS ⊢
        refine lv_iload hx hb dX6_block_151 (lv_at hl 0 rfl) ?_
        rw [hQ9]
        exact W.iret (v := r20) hx hb hr (fun t ht hW => ⟨⟨r20, (), rfl, (by first | rfl | trivial), q52, g46, q23, q24, q25, q26, q27, q28, q29, q30, q31, q32, q53, q34, q35, q36, g49, q38, q39, q40, q41, q42, q43, (by first | assumption | omega), (by first | assumption | omega), (by first | assumption | omega), (by first | assumption | omega), by rw [ht]; exact P_s hP [(23, 2), (0, 23)] rfl, va_K.moved hW.alike (K_s hK [(21, 1), (0, 21)] rfl), D_s hD [(23, 2), (0, 23)] 25 rfl (by decide +kernel) rfl⟩, hS.F ht⟩) hS.2.2 dX6_block_153
      · skip
        have f_c11 := i_nle c11
        refine lv_aload_n hx hb dX6_block_78 rfl (lv_at hl 1 rfl) ?_
        refine va_get (D := (dC, dI)) (ci := 5) (v := .ref jb) (C := RX6) (T := TX6) (N := 8) hx hb hts (fun w h => List.mem_cons_of_mem _ (inlX6 w h)) hown hK hP 0 rfl rfl 0 (by decide) (hts (.fieldLink RX6 27 "ClearingGates$Runner" "books" "LClearingGates$Books;") (List.mem_cons_of_mem _ mw_185)) (fun _ h9 => h9) rfl dX6_block_79 ?_
        refine va_get (D := (dC, dI)) (ci := 0) (v := .ref aq6) (C := RX0) (T := TX0) (N := 13) hx hb hts (fun w h => List.mem_cons_of_mem _ (inlX0 w h)) hown hK hP 23 rfl rfl 6 (by decide) (hts (.fieldLink RX6 110 "ClearingGates$Books" "agains" "[I") (List.mem_cons_of_mem _ mw_111)) (fun _ h9 => h9) rfl dX6_block_82 ?_
        refine lv_iload_n hx hb dX6_block_85 rfl (lv_at hl 0 rfl) ?_
        refine lv_dup2_11 hx hb dX6_block_86 rfl rfl ?_
        refine va_iald (D := (dC, dI)) hx hb hK hP 19 18 rfl rfl (vp_in_iff.mpr ⟨by omega, by omega⟩) dX6_block_87 ?_
        refine lv_topi (fun z54 e_z54 => ?_)
        refine lv_iconst (v := 1) hx hb dX6_block_88 (by decide) ?_
        refine lv_iadd hx hb dX6_block_89 ?_
        refine lv_topi (fun z55 e_z55 => ?_)
        (first | have t_z55 := i_add e_z55 (by omega) (by omega) | skip)
        refine va_iast (D := (dC, dI)) hx hb hK hP hD hS 19 18 rfl rfl (vp_in_iff.mpr ⟨by omega, by omega⟩) dX6_block_90 (fun H locs hP hD hS => ?_)
        generalize e_g56 : (upd ag6 (r2).toNatClampNeg z55) = g56 at hP hD
        obtain ⟨hP, hD⟩ := X_s (ws' := [eO h0 5 [.ref jb, .ref qm, .int mc, .ref qh, .ref qk, .ref qf, .int bg, .ref jp], eI qm km 60 fm, eI qh kh 8 fh, eR qk kk 9 fo, eI ro0 kr0 8 fr0, eI ro1 kr1 8 fr1, eI ro2 kr2 8 fr2, eI ro3 kr3 8 fr3, eI ro4 kr4 8 fr4, eI ro5 kr5 8 fr5, eI ro6 kr6 8 fr6, eI ro7 kr7 8 fr7, eI ro8 kr8 8 fr8, eL qf kf 9 ff, eI aq0 ak0 8 ag0, eI aq1 ak1 8 ag1, eI aq2 ak2 8 ag2, eI aq4 ak4 8 g9, eI aq5 ak5 8 ag5, eI aq6 ak6 8 g56, eI pn kpn 80 fpn, eO jp 2 [.ref pb, .ref pn, .int ps], eI pb kpb 80 fpb, eO jb 0 [.ref aq0, .ref aq1, .ref aq2, .ref aq3, .ref aq4, .ref aq5, .ref aq6, .int aacc, .long afees, .int amis, .int abel, .int aref, .int acau], eI aq3 ak3 8 ag3]) hP hD rfl
        refine lv_aload_n hx hb dX6_block_91 rfl (lv_at hl 1 rfl) ?_
        refine va_get (D := (dC, dI)) (ci := 5) (v := .ref qh) (C := RX6) (T := TX6) (N := 8) hx hb hts (fun w h => List.mem_cons_of_mem _ (inlX6 w h)) hown hK hP 0 rfl rfl 3 (by decide) (hts (.fieldLink RX6 15 "ClearingGates$Runner" "held" "[I") (List.mem_cons_of_mem _ mw_191)) (fun _ h9 => h9) rfl dX6_block_92 ?_
        refine lv_iload_n hx hb dX6_block_95 rfl (lv_at hl 0 rfl) ?_
        refine lv_dup2_11 hx hb dX6_block_96 rfl rfl ?_
        refine va_iald (D := (dC, dI)) hx hb hK hP 2 1 rfl rfl (vp_in_iff.mpr ⟨by omega, by omega⟩) dX6_block_97 ?_
        refine lv_topi (fun z57 e_z57 => ?_)
        refine lv_iconst (v := 1) hx hb dX6_block_98 (by decide) ?_
        refine lv_iadd hx hb dX6_block_99 ?_
        refine lv_topi (fun z58 e_z58 => ?_)
        (first | have t_z58 := i_add e_z58 (by omega) (by omega) | skip)
        refine va_iast (D := (dC, dI)) hx hb hK hP hD hS 2 1 rfl rfl (vp_in_iff.mpr ⟨by omega, by omega⟩) dX6_block_100 (fun H locs hP hD hS => ?_)
        generalize e_g59 : (upd fh (r2).toNatClampNeg z58) = g59 at hP hD
        obtain ⟨hP, hD⟩ := X_s (ws' := [eO h0 5 [.ref jb, .ref qm, .int mc, .ref qh, .ref qk, .ref qf, .int bg, .ref jp], eI qm km 60 fm, eI qh kh 8 g59, eR qk kk 9 fo, eI ro0 kr0 8 fr0, eI ro1 kr1 8 fr1, eI ro2 kr2 8 fr2, eI ro3 kr3 8 fr3, eI ro4 kr4 8 fr4, eI ro5 kr5 8 fr5, eI ro6 kr6 8 fr6, eI ro7 kr7 8 fr7, eI ro8 kr8 8 fr8, eL qf kf 9 ff, eI aq0 ak0 8 ag0, eI aq1 ak1 8 ag1, eI aq2 ak2 8 ag2, eI aq4 ak4 8 g9, eI aq5 ak5 8 ag5, eI aq6 ak6 8 g56, eI pn kpn 80 fpn, eO jp 2 [.ref pb, .ref pn, .int ps], eI pb kpb 80 fpb, eO jb 0 [.ref aq0, .ref aq1, .ref aq2, .ref aq3, .ref aq4, .ref aq5, .ref aq6, .int aacc, .long afees, .int amis, .int abel, .int aref, .int acau], eI aq3 ak3 8 ag3]) hP hD rfl
        refine lv_aload_n hx hb dX6_block_101 rfl (lv_at hl 1 rfl) ?_
        refine lv_bipush (v := 10) hx hb dX6_block_102 (by decide) ?_
        refine lv_iload_n hx hb dX6_block_104 rfl (lv_at hl 0 rfl) ?_
        refine lv_iadd hx hb dX6_block_105 ?_
        refine lv_topi (fun z60 e_z60 => ?_)
        (first | have t_z60 := i_add e_z60 (by omega) (by omega) | skip)
        obtain ⟨hPc, hDc, hFc, hCm, hNw⟩ := C_s (wc := [eO h0 5 [.ref jb, .ref qm, .int mc, .ref qh, .ref qk, .ref qf, .int bg, .ref jp], eI qm km 60 fm]) hP hD hS hA [(0, 2)] 25 rfl (by decide +kernel) rfl
        have hKc := K_s (tys' := [(km, .int)]) hK [(0, 1)] rfl
        refine va_callv (va_runV (As := [.int z60]) (rest := []) ⟨hx, hb, hml, hown, hts⟩ (c_X6_mark l dC dI h0 z60 jb qm mc qh qk qf bg jp km fm H.size rb3 (by first | assumption | omega)) (cwV 1 hts gX6_block_X6_mark rfl rfl rfl (by decide +kernel) ⟨(show (0) + 1 ≤ 10 * nd + 8 by omega), (show 8 + (2 + 11) + (0) ≤ 200 * nd + 120 by omega)⟩) ⟨fun a U g mk q => by obtain ⟨q0, q1, qP, qK, qD⟩ := q; exact ⟨q0, q1, qP, va_K.moved (u := U) (U := U.calling g mk a) (Vm.Alike.refl U.vm) qK, qD⟩, va_recv (s := s) (q := (RX6, TX6, 8)) hKc hPc (ci := 5) (q0 := 0) rfl rfl, fun U hU hW => ⟨rfl, by rw [hU], by rw [hU]; exact hPc, va_K.moved hW.alike hKc, hDc.weaken (fun _ _ _ _ => trivial)⟩⟩ rfl rfl hl.1 rfl (lv_room (Nat.le_of_ble_eq_true rfl)) dX6_block_106 ⟨Nat.le_of_ble_eq_true rfl, Nat.le_of_ble_eq_true rfl⟩) hS (fun q _ h => hFc q h) hFc (fun u t H1 locs ht hvm hw hB hz1 hk1 hS => ?_)
        obtain ⟨q62, q63, x1_r61, hP1, hK1, hD1⟩ := hB
        rw [ht] at hP1
        have hK1 := va_K.moved hvm.symm hK1
        try dsimp only at hw
        obtain ⟨hP, hD⟩ := J_s (wL := [eI qh kh 8 g59, eR qk kk 9 fo, eI ro0 kr0 8 fr0, eI ro1 kr1 8 fr1, eI ro2 kr2 8 fr2, eI ro3 kr3 8 fr3, eI ro4 kr4 8 fr4, eI ro5 kr5 8 fr5, eI ro6 kr6 8 fr6, eI ro7 kr7 8 fr7, eI ro8 kr8 8 fr8, eL qf kf 9 ff, eI aq0 ak0 8 ag0, eI aq1 ak1 8 ag1, eI aq2 ak2 8 ag2, eI aq4 ak4 8 g9, eI aq5 ak5 8 ag5, eI aq6 ak6 8 g56, eI pn kpn 80 fpn, eO jp 2 [.ref pb, .ref pn, .int ps], eI pb kpb 80 fpb, eO jb 0 [.ref aq0, .ref aq1, .ref aq2, .ref aq3, .ref aq4, .ref aq5, .ref aq6, .int aacc, .long afees, .int amis, .int abel, .int aref, .int acau], eI aq3 ak3 8 ag3, eO h0 5 [.ref jb, .ref qm, .int q63, .ref qh, .ref qk, .ref qf, .int bg, .ref jp], eI qm km 60 q62]) hP hD [(0, 2)] [(2, 23)] hCm hNw (by decide +kernel) hk1 hFc hP1 hD1 rfl
        have hK := KJ_s (tys' := [(kh, .int), (kk, .array .int), (kr0, .int), (kr1, .int), (kr2, .int), (kr3, .int), (kr4, .int), (kr5, .int), (kr6, .int), (kr7, .int), (kr8, .int), (kf, .long), (ak0, .int), (ak1, .int), (ak2, .int), (ak4, .int), (ak5, .int), (ak6, .int), (kpn, .int), (kpb, .int), (ak3, .boolean), (km, .int)]) hK hK1 [(1, 21)] rfl
        generalize H1 = H at hP hS ⊢
        refine lv_aload_n hx hb dX6_block_109 rfl (lv_at hl 1 rfl) ?_
        refine lv_iload_n hx hb dX6_block_110 rfl (lv_at hl 2 rfl) ?_
        refine lv_iload_n hx hb dX6_block_111 rfl (lv_at hl 2 rfl) ?_
        refine lv_iconst (v := 2) hx hb dX6_block_112 (by decide) ?_
        refine lv_iadd hx hb dX6_block_113 ?_
        refine lv_topi (fun z64 e_z64 => ?_)
        (first | have t_z64 := i_add e_z64 (by omega) (by omega) | skip)
        refine lv_iload_n hx hb dX6_block_114 rfl (lv_at hl 3 rfl) ?_
        obtain ⟨hPc, hDc, hFc, hCm, hNw⟩ := C_s (wc := [eO h0 5 [.ref jb, .ref qm, .int q63, .ref qh, .ref qk, .ref qf, .int bg, .ref jp], eI qm km 60 q62, eI qh kh 8 g59, eR qk kk 9 fo, eI ro0 kr0 8 fr0, eI ro1 kr1 8 fr1, eI ro2 kr2 8 fr2, eI ro3 kr3 8 fr3, eI ro4 kr4 8 fr4, eI ro5 kr5 8 fr5, eI ro6 kr6 8 fr6, eI ro7 kr7 8 fr7, eI ro8 kr8 8 fr8, eL qf kf 9 ff, eO jb 0 [.ref aq0, .ref aq1, .ref aq2, .ref aq3, .ref aq4, .ref aq5, .ref aq6, .int aacc, .long afees, .int amis, .int abel, .int aref, .int acau], eI aq0 ak0 8 ag0, eI aq1 ak1 8 ag1, eI aq2 ak2 8 ag2, eI aq3 ak3 8 ag3, eI aq4 ak4 8 g9, eI aq5 ak5 8 ag5, eI aq6 ak6 8 g56, eO jp 2 [.ref pb, .ref pn, .int ps], eI pb kpb 80 fpb, eI pn kpn 80 fpn]) hP hD hS hA [(23, 2), (0, 12), (21, 1), (12, 3), (22, 1), (15, 3), (19, 2), (18, 1)] 25 rfl (by decide +kernel) rfl
        have hKc := K_s (tys' := [(km, .int), (kh, .int), (kk, .array .int), (kr0, .int), (kr1, .int), (kr2, .int), (kr3, .int), (kr4, .int), (kr5, .int), (kr6, .int), (kr7, .int), (kr8, .int), (kf, .long), (ak0, .int), (ak1, .int), (ak2, .int), (ak3, .boolean), (ak4, .int), (ak5, .int), (ak6, .int), (kpb, .int), (kpn, .int)]) hK [(21, 1), (0, 15), (20, 1), (15, 3), (19, 1), (18, 1)] rfl
        refine va_calli (va_runV (As := [.int p0, .int z64, .int dp]) (rest := []) ⟨hx, hb, hml, hown, hts⟩ (c_X6_inside l dC dI h0 p0 z64 dp jb qm q63 qh qk qf bg jp km q62 kh g59 kk fo ro0 kr0 fr0 ro1 kr1 fr1 ro2 kr2 fr2 ro3 kr3 fr3 ro4 kr4 fr4 ro5 kr5 fr5 ro6 kr6 fr6 ro7 kr7 fr7 ro8 kr8 fr8 kf ff aq0 aq1 aq2 aq3 aq4 aq5 aq6 aacc afees amis abel aref acau ak0 ag0 ak1 ag1 ak2 ag2 ak3 ag3 ak4 g9 ak5 ag5 ak6 g56 pb pn ps kpb fpb kpn fpn nd H.size ra1 ra2 hp1 hp2 hb0 hf0 hf1 hf2 hf3 hf4 hf5 hf6 hf7 hf8 rb1 rb2 (by first | assumption | omega) (by first | assumption | omega) pl1 pl2 (by first | assumption | omega) (by first | assumption | omega) hd0 hdn ih) (cwV 3 hts gX6_block_X6_inside rfl rfl rfl (by decide +kernel) ⟨(show (10 * nd + 7) + 1 ≤ 10 * nd + 8 by omega), (show 8 + (4 + 11) + (200 * nd + 80) ≤ 200 * nd + 120 by omega)⟩) ⟨fun a U g mk q => by obtain ⟨q0, q1, qP, qK, qD⟩ := q; exact ⟨q0, q1, qP, va_K.moved (u := U) (U := U.calling g mk a) (Vm.Alike.refl U.vm) qK, qD⟩, va_recv (s := s) (q := (RX6, TX6, 8)) hKc hPc (ci := 5) (q0 := 0) rfl rfl, fun U hU hW => ⟨rfl, by rw [hU], by rw [hU]; exact hPc, va_K.moved hW.alike hKc, hDc.weaken (fun _ _ _ _ => trivial)⟩⟩ rfl rfl hl.1 rfl (lv_room (Nat.le_of_ble_eq_true rfl)) dX6_block_115 ⟨Nat.le_of_ble_eq_true rfl, Nat.le_of_ble_eq_true rfl⟩) hS (fun q _ h => hFc q h) hFc (fun r65 u t H1 locs ht hvm hw hB hz1 hk1 hS => ?_)
        refine Exists.elim hB ?_; clear hB; intro q66 hB
        refine Exists.elim hB ?_; clear hB; intro q67 hB
        refine Exists.elim hB ?_; clear hB; intro q68 hB
        refine Exists.elim hB ?_; clear hB; intro q69 hB
        refine Exists.elim hB ?_; clear hB; intro q70 hB
        refine Exists.elim hB ?_; clear hB; intro q71 hB
        refine Exists.elim hB ?_; clear hB; intro q72 hB
        refine Exists.elim hB ?_; clear hB; intro q73 hB
        refine Exists.elim hB ?_; clear hB; intro q74 hB
        refine Exists.elim hB ?_; clear hB; intro q75 hB
        refine Exists.elim hB ?_; clear hB; intro q76 hB
        refine Exists.elim hB ?_; clear hB; intro q77 hB
        refine Exists.elim hB ?_; clear hB; intro q78 hB
        refine Exists.elim hB ?_; clear hB; intro q79 hB
        refine Exists.elim hB ?_; clear hB; intro q80 hB
        refine Exists.elim hB ?_; clear hB; intro q81 hB
        refine Exists.elim hB ?_; clear hB; intro q82 hB
        refine Exists.elim hB ?_; clear hB; intro q83 hB
        refine Exists.elim hB ?_; clear hB; intro q84 hB
        refine Exists.elim hB ?_; clear hB; intro q85 hB
        refine Exists.elim hB ?_; clear hB; intro q86 hB
        refine Exists.elim hB ?_; clear hB; intro q87 hB
        refine Exists.elim hB ?_; clear hB; intro q88 hB
        have x1_r65 := hB.1
        replace hB := hB.2
        have x2_r65 := hB.1
        replace hB := hB.2
        have x3_r65 := hB.1
        replace hB := hB.2
        have x4_r65 := hB.1
        replace hB := hB.2
        obtain ⟨hP1, hK1, hD1⟩ := hB
        rw [ht] at hP1
        have hK1 := va_K.moved hvm.symm hK1
        try dsimp only at hw
        obtain ⟨hP, hD⟩ := J_s (wL := [eO h0 5 [.ref jb, .ref qm, .int q78, .ref qh, .ref qk, .ref qf, .int q79, .ref jp], eI qm km 60 q66, eI qh kh 8 q67, eR qk kk 9 fo, eI ro0 kr0 8 q68, eI ro1 kr1 8 q69, eI ro2 kr2 8 q70, eI ro3 kr3 8 q71, eI ro4 kr4 8 q72, eI ro5 kr5 8 q73, eI ro6 kr6 8 q74, eI ro7 kr7 8 q75, eI ro8 kr8 8 q76, eL qf kf 9 q77, eO jb 0 [.ref aq0, .ref aq1, .ref aq2, .ref aq3, .ref aq4, .ref aq5, .ref aq6, .int aacc, .long q84, .int q85, .int q86, .int q87, .int q88], eI aq0 ak0 8 ag0, eI aq1 ak1 8 q80, eI aq2 ak2 8 ag2, eI aq3 ak3 8 ag3, eI aq4 ak4 8 q81, eI aq5 ak5 8 q82, eI aq6 ak6 8 q83, eO jp 2 [.ref pb, .ref pn, .int ps], eI pb kpb 80 fpb, eI pn kpn 80 fpn]) hP hD [(23, 2), (0, 12), (21, 1), (12, 3), (22, 1), (15, 3), (19, 2), (18, 1)] [] hCm hNw (by decide +kernel) hk1 hFc hP1 hD1 rfl
        have hK := KJ_s (tys' := [(km, .int), (kh, .int), (kk, .array .int), (kr0, .int), (kr1, .int), (kr2, .int), (kr3, .int), (kr4, .int), (kr5, .int), (kr6, .int), (kr7, .int), (kr8, .int), (kf, .long), (ak0, .int), (ak1, .int), (ak2, .int), (ak3, .boolean), (ak4, .int), (ak5, .int), (ak6, .int), (kpb, .int), (kpn, .int)]) hK hK1 [] rfl
        generalize H1 = H at hP hS ⊢
        refine lv_istore (lv' := [(4, .int r65), (3, .int r2), (0, .ref h0), (1, .int p0), (2, .int dp)]) hx hb dX6_block_118 hl (by decide) rfl (fun ls hl => ?_)
        refine lv_aload_n hx hb dX6_block_120 rfl (lv_at hl 2 rfl) ?_
        refine va_get (D := (dC, dI)) (ci := 5) (v := .ref qh) (C := RX6) (T := TX6) (N := 8) hx hb hts (fun w h => List.mem_cons_of_mem _ (inlX6 w h)) hown hK hP 0 rfl rfl 3 (by decide) (hts (.fieldLink RX6 15 "ClearingGates$Runner" "held" "[I") (List.mem_cons_of_mem _ mw_191)) (fun _ h9 => h9) rfl dX6_block_121 ?_
        refine lv_iload_n hx hb dX6_block_124 rfl (lv_at hl 1 rfl) ?_
        refine lv_dup2_11 hx hb dX6_block_125 rfl rfl ?_
        refine va_iald (D := (dC, dI)) hx hb hK hP 2 1 rfl rfl (vp_in_iff.mpr ⟨by omega, by omega⟩) dX6_block_126 ?_
        refine lv_topi (fun z89 e_z89 => ?_)
        refine lv_iconst (v := 1) hx hb dX6_block_127 (by decide) ?_
        refine lv_isub hx hb dX6_block_128 ?_
        refine lv_topi (fun z90 e_z90 => ?_)
        (first | have t_z90 := i_sub e_z90 (by omega) (by omega) | skip)
        refine va_iast (D := (dC, dI)) hx hb hK hP hD hS 2 1 rfl rfl (vp_in_iff.mpr ⟨by omega, by omega⟩) dX6_block_129 (fun H locs hP hD hS => ?_)
        generalize e_g91 : (upd q67 (r2).toNatClampNeg z90) = g91 at hP hD
        obtain ⟨hP, hD⟩ := X_s (ws' := [eO h0 5 [.ref jb, .ref qm, .int q78, .ref qh, .ref qk, .ref qf, .int q79, .ref jp], eI qm km 60 q66, eI qh kh 8 g91, eR qk kk 9 fo, eI ro0 kr0 8 q68, eI ro1 kr1 8 q69, eI ro2 kr2 8 q70, eI ro3 kr3 8 q71, eI ro4 kr4 8 q72, eI ro5 kr5 8 q73, eI ro6 kr6 8 q74, eI ro7 kr7 8 q75, eI ro8 kr8 8 q76, eL qf kf 9 q77, eO jb 0 [.ref aq0, .ref aq1, .ref aq2, .ref aq3, .ref aq4, .ref aq5, .ref aq6, .int aacc, .long q84, .int q85, .int q86, .int q87, .int q88], eI aq0 ak0 8 ag0, eI aq1 ak1 8 q80, eI aq2 ak2 8 ag2, eI aq3 ak3 8 ag3, eI aq4 ak4 8 q81, eI aq5 ak5 8 q82, eI aq6 ak6 8 q83, eO jp 2 [.ref pb, .ref pn, .int ps], eI pb kpb 80 fpb, eI pn kpn 80 fpn]) hP hD rfl
        refine lv_aload_n hx hb dX6_block_130 rfl (lv_at hl 2 rfl) ?_
        refine va_get (D := (dC, dI)) (ci := 5) (v := .ref jb) (C := RX6) (T := TX6) (N := 8) hx hb hts (fun w h => List.mem_cons_of_mem _ (inlX6 w h)) hown hK hP 0 rfl rfl 0 (by decide) (hts (.fieldLink RX6 27 "ClearingGates$Runner" "books" "LClearingGates$Books;") (List.mem_cons_of_mem _ mw_185)) (fun _ h9 => h9) rfl dX6_block_131 ?_
        refine va_get (D := (dC, dI)) (ci := 0) (v := .ref aq5) (C := RX0) (T := TX0) (N := 13) hx hb hts (fun w h => List.mem_cons_of_mem _ (inlX0 w h)) hown hK hP 14 rfl rfl 5 (by decide) (hts (.fieldLink RX6 119 "ClearingGates$Books" "leavings" "[I") (List.mem_cons_of_mem _ mw_108)) (fun _ h9 => h9) rfl dX6_block_134 ?_
        refine lv_iload_n hx hb dX6_block_137 rfl (lv_at hl 1 rfl) ?_
        refine lv_dup2_11 hx hb dX6_block_138 rfl rfl ?_
        refine va_iald (D := (dC, dI)) hx hb hK hP 20 18 rfl rfl (vp_in_iff.mpr ⟨by omega, by omega⟩) dX6_block_139 ?_
        refine lv_topi (fun z92 e_z92 => ?_)
        refine lv_iconst (v := 1) hx hb dX6_block_140 (by decide) ?_
        refine lv_iadd hx hb dX6_block_141 ?_
        refine lv_topi (fun z93 e_z93 => ?_)
        (first | have t_z93 := i_add e_z93 (by omega) (by omega) | skip)
        refine va_iast (D := (dC, dI)) hx hb hK hP hD hS 20 18 rfl rfl (vp_in_iff.mpr ⟨by omega, by omega⟩) dX6_block_142 (fun H locs hP hD hS => ?_)
        generalize e_g94 : (upd q82 (r2).toNatClampNeg z93) = g94 at hP hD
        obtain ⟨hP, hD⟩ := X_s (ws' := [eO h0 5 [.ref jb, .ref qm, .int q78, .ref qh, .ref qk, .ref qf, .int q79, .ref jp], eI qm km 60 q66, eI qh kh 8 g91, eR qk kk 9 fo, eI ro0 kr0 8 q68, eI ro1 kr1 8 q69, eI ro2 kr2 8 q70, eI ro3 kr3 8 q71, eI ro4 kr4 8 q72, eI ro5 kr5 8 q73, eI ro6 kr6 8 q74, eI ro7 kr7 8 q75, eI ro8 kr8 8 q76, eL qf kf 9 q77, eO jb 0 [.ref aq0, .ref aq1, .ref aq2, .ref aq3, .ref aq4, .ref aq5, .ref aq6, .int aacc, .long q84, .int q85, .int q86, .int q87, .int q88], eI aq0 ak0 8 ag0, eI aq1 ak1 8 q80, eI aq2 ak2 8 ag2, eI aq3 ak3 8 ag3, eI aq4 ak4 8 q81, eI aq5 ak5 8 g94, eI aq6 ak6 8 q83, eO jp 2 [.ref pb, .ref pn, .int ps], eI pb kpb 80 fpb, eI pn kpn 80 fpn]) hP hD rfl
        refine lv_aload_n hx hb dX6_block_143 rfl (lv_at hl 2 rfl) ?_
        refine lv_bipush (v := 20) hx hb dX6_block_144 (by decide) ?_
        refine lv_iload_n hx hb dX6_block_146 rfl (lv_at hl 1 rfl) ?_
        refine lv_iadd hx hb dX6_block_147 ?_
        refine lv_topi (fun z95 e_z95 => ?_)
        (first | have t_z95 := i_add e_z95 (by omega) (by omega) | skip)
        obtain ⟨hPc, hDc, hFc, hCm, hNw⟩ := C_s (wc := [eO h0 5 [.ref jb, .ref qm, .int q78, .ref qh, .ref qk, .ref qf, .int q79, .ref jp], eI qm km 60 q66]) hP hD hS hA [(0, 2)] 25 rfl (by decide +kernel) rfl
        have hKc := K_s (tys' := [(km, .int)]) hK [(0, 1)] rfl
        refine va_callv (va_runV (As := [.int z95]) (rest := []) ⟨hx, hb, hml, hown, hts⟩ (c_X6_mark l dC dI h0 z95 jb qm q78 qh qk qf q79 jp km q66 H.size (by first | assumption | omega) (by first | assumption | omega)) (cwV 1 hts gX6_block_X6_mark rfl rfl rfl (by decide +kernel) ⟨(show (0) + 1 ≤ 10 * nd + 8 by omega), (show 8 + (2 + 11) + (0) ≤ 200 * nd + 120 by omega)⟩) ⟨fun a U g mk q => by obtain ⟨q0, q1, qP, qK, qD⟩ := q; exact ⟨q0, q1, qP, va_K.moved (u := U) (U := U.calling g mk a) (Vm.Alike.refl U.vm) qK, qD⟩, va_recv (s := s) (q := (RX6, TX6, 8)) hKc hPc (ci := 5) (q0 := 0) rfl rfl, fun U hU hW => ⟨rfl, by rw [hU], by rw [hU]; exact hPc, va_K.moved hW.alike hKc, hDc.weaken (fun _ _ _ _ => trivial)⟩⟩ rfl rfl hl.1 rfl (lv_room (Nat.le_of_ble_eq_true rfl)) dX6_block_148 ⟨Nat.le_of_ble_eq_true rfl, Nat.le_of_ble_eq_true rfl⟩) hS (fun q _ h => hFc q h) hFc (fun u t H1 locs ht hvm hw hB hz1 hk1 hS => ?_)
        obtain ⟨q97, q98, x1_r96, hP1, hK1, hD1⟩ := hB
        rw [ht] at hP1
        have hK1 := va_K.moved hvm.symm hK1
        try dsimp only at hw
        obtain ⟨hP, hD⟩ := J_s (wL := [eI qh kh 8 g91, eR qk kk 9 fo, eI ro0 kr0 8 q68, eI ro1 kr1 8 q69, eI ro2 kr2 8 q70, eI ro3 kr3 8 q71, eI ro4 kr4 8 q72, eI ro5 kr5 8 q73, eI ro6 kr6 8 q74, eI ro7 kr7 8 q75, eI ro8 kr8 8 q76, eL qf kf 9 q77, eO jb 0 [.ref aq0, .ref aq1, .ref aq2, .ref aq3, .ref aq4, .ref aq5, .ref aq6, .int aacc, .long q84, .int q85, .int q86, .int q87, .int q88], eI aq0 ak0 8 ag0, eI aq1 ak1 8 q80, eI aq2 ak2 8 ag2, eI aq3 ak3 8 ag3, eI aq4 ak4 8 q81, eI aq5 ak5 8 g94, eI aq6 ak6 8 q83, eO jp 2 [.ref pb, .ref pn, .int ps], eI pb kpb 80 fpb, eI pn kpn 80 fpn, eO h0 5 [.ref jb, .ref qm, .int q98, .ref qh, .ref qk, .ref qf, .int q79, .ref jp], eI qm km 60 q97]) hP hD [(0, 2)] [(2, 23)] hCm hNw (by decide +kernel) hk1 hFc hP1 hD1 rfl
        have hK := KJ_s (tys' := [(kh, .int), (kk, .array .int), (kr0, .int), (kr1, .int), (kr2, .int), (kr3, .int), (kr4, .int), (kr5, .int), (kr6, .int), (kr7, .int), (kr8, .int), (kf, .long), (ak0, .int), (ak1, .int), (ak2, .int), (ak3, .boolean), (ak4, .int), (ak5, .int), (ak6, .int), (kpb, .int), (kpn, .int), (km, .int)]) hK hK1 [(1, 21)] rfl
        generalize H1 = H at hP hS ⊢
        refine lv_iload hx hb dX6_block_151 (lv_at hl 0 rfl) ?_
        rw [hQ9]
        exact W.iret (v := r65) hx hb hr (fun t ht hW => ⟨⟨r65, (), rfl, (by first | rfl | trivial), q97, g91, q68, q69, q70, q71, q72, q73, q74, q75, q76, q77, q98, q79, q80, q81, g94, q83, q84, q85, q86, q87, q88, (by first | assumption | omega), (by first | assumption | omega), (by first | assumption | omega), (by first | assumption | omega), by rw [ht]; exact P_s hP [(23, 2), (0, 23)] rfl, va_K.moved hW.alike (K_s hK [(21, 1), (0, 21)] rfl), D_s hD [(23, 2), (0, 23)] 25 rfl (by decide +kernel) rfl⟩, hS.F ht⟩) hS.2.2 dX6_block_153
    · skip
      have f_c6 := i_eq c6
      refine lv_aload_n hx hb dX6_block_46 rfl (lv_at hl 1 rfl) ?_
      refine lv_iload_n hx hb dX6_block_47 rfl (lv_at hl 0 rfl) ?_
      obtain ⟨hPc, hDc, hFc, hCm, hNw⟩ := C_s (wc := [eO h0 5 [.ref jb, .ref qm, .int mc, .ref qh, .ref qk, .ref qf, .int bg, .ref jp], eI qh kh 8 fh]) hP hD hS hA [(0, 1), (2, 1)] 25 rfl (by decide +kernel) rfl
      have hKc := K_s (tys' := [(kh, .int)]) hK [(1, 1)] rfl
      refine va_calli (va_runV (As := [.int r2]) (rest := []) ⟨hx, hb, hml, hown, hts⟩ (c_X6_isGreaterHeld l dC dI h0 r2 jb qm mc qh qk qf bg jp kh fh H.size (by first | assumption | omega) (by first | assumption | omega)) (cwV 1 hts gX6_block_X6_isGreaterHeld rfl rfl rfl (by decide +kernel) ⟨(show (0) + 1 ≤ 10 * nd + 8 by omega), (show 8 + (3 + 11) + (0) ≤ 200 * nd + 120 by omega)⟩) ⟨fun a U g mk q => by obtain ⟨q0, q1, qP, qK, qD⟩ := q; exact ⟨q0, q1, qP, va_K.moved (u := U) (U := U.calling g mk a) (Vm.Alike.refl U.vm) qK, qD⟩, va_recv (s := s) (q := (RX6, TX6, 8)) hKc hPc (ci := 5) (q0 := 0) rfl rfl, fun U hU hW => ⟨rfl, by rw [hU], by rw [hU]; exact hPc, va_K.moved hW.alike hKc, hDc.weaken (fun _ _ _ _ => trivial)⟩⟩ rfl rfl hl.1 rfl (lv_room (Nat.le_of_ble_eq_true rfl)) dX6_block_48 ⟨Nat.le_of_ble_eq_true rfl, Nat.le_of_ble_eq_true rfl⟩) hS (fun q _ h => hFc q h) hFc (fun r99 u t H1 locs ht hvm hw hB hz1 hk1 hS => ?_)
      obtain ⟨hP1, hK1, hD1⟩ := hB
      rw [ht] at hP1
      have hK1 := va_K.moved hvm.symm hK1
      try dsimp only at hw
      obtain ⟨hP, hD⟩ := J_s (wL := [eI qm km 60 fm, eR qk kk 9 fo, eI ro0 kr0 8 fr0, eI ro1 kr1 8 fr1, eI ro2 kr2 8 fr2, eI ro3 kr3 8 fr3, eI ro4 kr4 8 fr4, eI ro5 kr5 8 fr5, eI ro6 kr6 8 fr6, eI ro7 kr7 8 fr7, eI ro8 kr8 8 fr8, eL qf kf 9 ff, eI aq0 ak0 8 ag0, eI aq1 ak1 8 ag1, eI aq2 ak2 8 ag2, eI aq4 ak4 8 ag4, eI aq5 ak5 8 ag5, eI aq6 ak6 8 ag6, eI pn kpn 80 fpn, eO jp 2 [.ref pb, .ref pn, .int ps], eI pb kpb 80 fpb, eO jb 0 [.ref aq0, .ref aq1, .ref aq2, .ref aq3, .ref aq4, .ref aq5, .ref aq6, .int aacc, .long afees, .int amis, .int abel, .int aref, .int acau], eI aq3 ak3 8 ag3, eO h0 5 [.ref jb, .ref qm, .int mc, .ref qh, .ref qk, .ref qf, .int bg, .ref jp], eI qh kh 8 fh]) hP hD [(0, 1), (2, 1)] [(1, 1), (3, 22)] hCm hNw (by decide +kernel) hk1 hFc hP1 hD1 rfl
      have hK := KJ_s (tys' := [(km, .int), (kk, .array .int), (kr0, .int), (kr1, .int), (kr2, .int), (kr3, .int), (kr4, .int), (kr5, .int), (kr6, .int), (kr7, .int), (kr8, .int), (kf, .long), (ak0, .int), (ak1, .int), (ak2, .int), (ak4, .int), (ak5, .int), (ak6, .int), (kpn, .int), (kpb, .int), (ak3, .boolean), (kh, .int)]) hK hK1 [(0, 1), (2, 20)] rfl
      generalize H1 = H at hP hS ⊢
      rcases hw with ⟨e_r99, f_r99⟩ | ⟨e_r99, f_r99⟩
      · subst e_r99
        refine lv_if_eq (tgt := 56) hx hb dX6_block_51 (by decide) (fun c100 => absurd c100 (by decide)) (fun c100 => ?_)
        refine lv_iconst (v := 3) hx hb dX6_block_54 (by decide) ?_
        rw [hQ9]
        exact W.iret (v := 3) hx hb hr (fun t ht hW => ⟨⟨3, (), rfl, (by first | rfl | trivial), fm, fh, fr0, fr1, fr2, fr3, fr4, fr5, fr6, fr7, fr8, ff, mc, bg, ag1, ag4, ag5, ag6, afees, amis, abel, aref, acau, (by first | assumption | omega), (by first | assumption | omega), (by first | assumption | omega), (by first | assumption | omega), by rw [ht]; exact P_s hP [(23, 1), (0, 1), (24, 1), (1, 11), (21, 1), (12, 3), (22, 1), (15, 3), (19, 2), (18, 1)] rfl, va_K.moved hW.alike (K_s hK [(0, 1), (21, 1), (1, 14), (20, 1), (15, 3), (19, 1), (18, 1)] rfl), D_s hD [(23, 1), (0, 1), (24, 1), (1, 11), (21, 1), (12, 3), (22, 1), (15, 3), (19, 2), (18, 1)] 25 rfl (by decide +kernel) rfl⟩, hS.F ht⟩) hS.2.2 dX6_block_55
      · subst e_r99
        refine lv_if_eq (tgt := 56) hx hb dX6_block_51 (by decide) (fun c101 => ?_) (fun c101 => absurd (by decide) c101)
        refine lv_aload_n hx hb dX6_block_56 rfl (lv_at hl 1 rfl) ?_
        refine va_get (D := (dC, dI)) (ci := 5) (v := .ref jb) (C := RX6) (T := TX6) (N := 8) hx hb hts (fun w h => List.mem_cons_of_mem _ (inlX6 w h)) hown hK hP 23 rfl rfl 0 (by decide) (hts (.fieldLink RX6 27 "ClearingGates$Runner" "books" "LClearingGates$Books;") (List.mem_cons_of_mem _ mw_185)) (fun _ h9 => h9) rfl dX6_block_57 ?_
        refine va_get (D := (dC, dI)) (ci := 0) (v := .ref aq4) (C := RX0) (T := TX0) (N := 13) hx hb hts (fun w h => List.mem_cons_of_mem _ (inlX0 w h)) hown hK hP 21 rfl rfl 4 (by decide) (hts (.fieldLink RX6 107 "ClearingGates$Books" "entries" "[I") (List.mem_cons_of_mem _ mw_105)) (fun _ h9 => h9) rfl dX6_block_60 ?_
        refine lv_iload_n hx hb dX6_block_63 rfl (lv_at hl 0 rfl) ?_
        refine lv_dup2_11 hx hb dX6_block_64 rfl rfl ?_
        refine va_iald (D := (dC, dI)) hx hb hK hP 15 15 rfl rfl (vp_in_iff.mpr ⟨by omega, by omega⟩) dX6_block_65 ?_
        refine lv_topi (fun z102 e_z102 => ?_)
        refine lv_iconst (v := 1) hx hb dX6_block_66 (by decide) ?_
        refine lv_iadd hx hb dX6_block_67 ?_
        refine lv_topi (fun z103 e_z103 => ?_)
        (first | have t_z103 := i_add e_z103 (by omega) (by omega) | skip)
        refine va_iast (D := (dC, dI)) hx hb hK hP hD hS 15 15 rfl rfl (vp_in_iff.mpr ⟨by omega, by omega⟩) dX6_block_68 (fun H locs hP hD hS => ?_)
        generalize e_g104 : (upd ag4 (r2).toNatClampNeg z103) = g104 at hP hD
        obtain ⟨hP, hD⟩ := X_s (ws' := [eI qm km 60 fm, eR qk kk 9 fo, eI ro0 kr0 8 fr0, eI ro1 kr1 8 fr1, eI ro2 kr2 8 fr2, eI ro3 kr3 8 fr3, eI ro4 kr4 8 fr4, eI ro5 kr5 8 fr5, eI ro6 kr6 8 fr6, eI ro7 kr7 8 fr7, eI ro8 kr8 8 fr8, eL qf kf 9 ff, eI aq0 ak0 8 ag0, eI aq1 ak1 8 ag1, eI aq2 ak2 8 ag2, eI aq4 ak4 8 g104, eI aq5 ak5 8 ag5, eI aq6 ak6 8 ag6, eI pn kpn 80 fpn, eO jp 2 [.ref pb, .ref pn, .int ps], eI pb kpb 80 fpb, eO jb 0 [.ref aq0, .ref aq1, .ref aq2, .ref aq3, .ref aq4, .ref aq5, .ref aq6, .int aacc, .long afees, .int amis, .int abel, .int aref, .int acau], eI aq3 ak3 8 ag3, eO h0 5 [.ref jb, .ref qm, .int mc, .ref qh, .ref qk, .ref qf, .int bg, .ref jp], eI qh kh 8 fh]) hP hD rfl
        refine lv_aload_n hx hb dX6_block_69 rfl (lv_at hl 1 rfl) ?_
        refine va_get (D := (dC, dI)) (ci := 5) (v := .ref qh) (C := RX6) (T := TX6) (N := 8) hx hb hts (fun w h => List.mem_cons_of_mem _ (inlX6 w h)) hown hK hP 23 rfl rfl 3 (by decide) (hts (.fieldLink RX6 15 "ClearingGates$Runner" "held" "[I") (List.mem_cons_of_mem _ mw_191)) (fun _ h9 => h9) rfl dX6_block_70 ?_
        refine lv_iload_n hx hb dX6_block_73 rfl (lv_at hl 0 rfl) ?_
        refine va_iald (D := (dC, dI)) hx hb hK hP 24 21 rfl rfl (vp_in_iff.mpr ⟨by omega, by omega⟩) dX6_block_74 ?_
        refine lv_topi (fun z105 e_z105 => ?_)
        refine lv_if_le (tgt := 91) hx hb dX6_block_75 (by decide) (fun c106 => ?_) (fun c106 => ?_)
        · skip
          have f_c106 := i_le c106
          refine lv_aload_n hx hb dX6_block_91 rfl (lv_at hl 1 rfl) ?_
          refine va_get (D := (dC, dI)) (ci := 5) (v := .ref qh) (C := RX6) (T := TX6) (N := 8) hx hb hts (fun w h => List.mem_cons_of_mem _ (inlX6 w h)) hown hK hP 23 rfl rfl 3 (by decide) (hts (.fieldLink RX6 15 "ClearingGates$Runner" "held" "[I") (List.mem_cons_of_mem _ mw_191)) (fun _ h9 => h9) rfl dX6_block_92 ?_
          refine lv_iload_n hx hb dX6_block_95 rfl (lv_at hl 0 rfl) ?_
          refine lv_dup2_11 hx hb dX6_block_96 rfl rfl ?_
          refine va_iald (D := (dC, dI)) hx hb hK hP 24 21 rfl rfl (vp_in_iff.mpr ⟨by omega, by omega⟩) dX6_block_97 ?_
          refine lv_topi (fun z107 e_z107 => ?_)
          refine lv_iconst (v := 1) hx hb dX6_block_98 (by decide) ?_
          refine lv_iadd hx hb dX6_block_99 ?_
          refine lv_topi (fun z108 e_z108 => ?_)
          (first | have t_z108 := i_add e_z108 (by omega) (by omega) | skip)
          refine va_iast (D := (dC, dI)) hx hb hK hP hD hS 24 21 rfl rfl (vp_in_iff.mpr ⟨by omega, by omega⟩) dX6_block_100 (fun H locs hP hD hS => ?_)
          generalize e_g109 : (upd fh (r2).toNatClampNeg z108) = g109 at hP hD
          obtain ⟨hP, hD⟩ := X_s (ws' := [eI qm km 60 fm, eR qk kk 9 fo, eI ro0 kr0 8 fr0, eI ro1 kr1 8 fr1, eI ro2 kr2 8 fr2, eI ro3 kr3 8 fr3, eI ro4 kr4 8 fr4, eI ro5 kr5 8 fr5, eI ro6 kr6 8 fr6, eI ro7 kr7 8 fr7, eI ro8 kr8 8 fr8, eL qf kf 9 ff, eI aq0 ak0 8 ag0, eI aq1 ak1 8 ag1, eI aq2 ak2 8 ag2, eI aq4 ak4 8 g104, eI aq5 ak5 8 ag5, eI aq6 ak6 8 ag6, eI pn kpn 80 fpn, eO jp 2 [.ref pb, .ref pn, .int ps], eI pb kpb 80 fpb, eO jb 0 [.ref aq0, .ref aq1, .ref aq2, .ref aq3, .ref aq4, .ref aq5, .ref aq6, .int aacc, .long afees, .int amis, .int abel, .int aref, .int acau], eI aq3 ak3 8 ag3, eO h0 5 [.ref jb, .ref qm, .int mc, .ref qh, .ref qk, .ref qf, .int bg, .ref jp], eI qh kh 8 g109]) hP hD rfl
          refine lv_aload_n hx hb dX6_block_101 rfl (lv_at hl 1 rfl) ?_
          refine lv_bipush (v := 10) hx hb dX6_block_102 (by decide) ?_
          refine lv_iload_n hx hb dX6_block_104 rfl (lv_at hl 0 rfl) ?_
          refine lv_iadd hx hb dX6_block_105 ?_
          refine lv_topi (fun z110 e_z110 => ?_)
          (first | have t_z110 := i_add e_z110 (by omega) (by omega) | skip)
          obtain ⟨hPc, hDc, hFc, hCm, hNw⟩ := C_s (wc := [eO h0 5 [.ref jb, .ref qm, .int mc, .ref qh, .ref qk, .ref qf, .int bg, .ref jp], eI qm km 60 fm]) hP hD hS hA [(23, 1), (0, 1)] 25 rfl (by decide +kernel) rfl
          have hKc := K_s (tys' := [(km, .int)]) hK [(0, 1)] rfl
          refine va_callv (va_runV (As := [.int z110]) (rest := []) ⟨hx, hb, hml, hown, hts⟩ (c_X6_mark l dC dI h0 z110 jb qm mc qh qk qf bg jp km fm H.size rb3 (by first | assumption | omega)) (cwV 1 hts gX6_block_X6_mark rfl rfl rfl (by decide +kernel) ⟨(show (0) + 1 ≤ 10 * nd + 8 by omega), (show 8 + (2 + 11) + (0) ≤ 200 * nd + 120 by omega)⟩) ⟨fun a U g mk q => by obtain ⟨q0, q1, qP, qK, qD⟩ := q; exact ⟨q0, q1, qP, va_K.moved (u := U) (U := U.calling g mk a) (Vm.Alike.refl U.vm) qK, qD⟩, va_recv (s := s) (q := (RX6, TX6, 8)) hKc hPc (ci := 5) (q0 := 0) rfl rfl, fun U hU hW => ⟨rfl, by rw [hU], by rw [hU]; exact hPc, va_K.moved hW.alike hKc, hDc.weaken (fun _ _ _ _ => trivial)⟩⟩ rfl rfl hl.1 rfl (lv_room (Nat.le_of_ble_eq_true rfl)) dX6_block_106 ⟨Nat.le_of_ble_eq_true rfl, Nat.le_of_ble_eq_true rfl⟩) hS (fun q _ h => hFc q h) hFc (fun u t H1 locs ht hvm hw hB hz1 hk1 hS => ?_)
          obtain ⟨q112, q113, x1_r111, hP1, hK1, hD1⟩ := hB
          rw [ht] at hP1
          have hK1 := va_K.moved hvm.symm hK1
          try dsimp only at hw
          obtain ⟨hP, hD⟩ := J_s (wL := [eR qk kk 9 fo, eI ro0 kr0 8 fr0, eI ro1 kr1 8 fr1, eI ro2 kr2 8 fr2, eI ro3 kr3 8 fr3, eI ro4 kr4 8 fr4, eI ro5 kr5 8 fr5, eI ro6 kr6 8 fr6, eI ro7 kr7 8 fr7, eI ro8 kr8 8 fr8, eL qf kf 9 ff, eI aq0 ak0 8 ag0, eI aq1 ak1 8 ag1, eI aq2 ak2 8 ag2, eI aq4 ak4 8 g104, eI aq5 ak5 8 ag5, eI aq6 ak6 8 ag6, eI pn kpn 80 fpn, eO jp 2 [.ref pb, .ref pn, .int ps], eI pb kpb 80 fpb, eO jb 0 [.ref aq0, .ref aq1, .ref aq2, .ref aq3, .ref aq4, .ref aq5, .ref aq6, .int aacc, .long afees, .int amis, .int abel, .int aref, .int acau], eI aq3 ak3 8 ag3, eI qh kh 8 g109, eO h0 5 [.ref jb, .ref qm, .int q113, .ref qh, .ref qk, .ref qf, .int bg, .ref jp], eI qm km 60 q112]) hP hD [(23, 1), (0, 1)] [(1, 22), (24, 1)] hCm hNw (by decide +kernel) hk1 hFc hP1 hD1 rfl
          have hK := KJ_s (tys' := [(kk, .array .int), (kr0, .int), (kr1, .int), (kr2, .int), (kr3, .int), (kr4, .int), (kr5, .int), (kr6, .int), (kr7, .int), (kr8, .int), (kf, .long), (ak0, .int), (ak1, .int), (ak2, .int), (ak4, .int), (ak5, .int), (ak6, .int), (kpn, .int), (kpb, .int), (ak3, .boolean), (kh, .int), (km, .int)]) hK hK1 [(1, 21)] rfl
          generalize H1 = H at hP hS ⊢
          refine lv_aload_n hx hb dX6_block_109 rfl (lv_at hl 1 rfl) ?_
          refine lv_iload_n hx hb dX6_block_110 rfl (lv_at hl 2 rfl) ?_
          refine lv_iload_n hx hb dX6_block_111 rfl (lv_at hl 2 rfl) ?_
          refine lv_iconst (v := 2) hx hb dX6_block_112 (by decide) ?_
          refine lv_iadd hx hb dX6_block_113 ?_
          refine lv_topi (fun z114 e_z114 => ?_)
          (first | have t_z114 := i_add e_z114 (by omega) (by omega) | skip)
          refine lv_iload_n hx hb dX6_block_114 rfl (lv_at hl 3 rfl) ?_
          obtain ⟨hPc, hDc, hFc, hCm, hNw⟩ := C_s (wc := [eO h0 5 [.ref jb, .ref qm, .int q113, .ref qh, .ref qk, .ref qf, .int bg, .ref jp], eI qm km 60 q112, eI qh kh 8 g109, eR qk kk 9 fo, eI ro0 kr0 8 fr0, eI ro1 kr1 8 fr1, eI ro2 kr2 8 fr2, eI ro3 kr3 8 fr3, eI ro4 kr4 8 fr4, eI ro5 kr5 8 fr5, eI ro6 kr6 8 fr6, eI ro7 kr7 8 fr7, eI ro8 kr8 8 fr8, eL qf kf 9 ff, eO jb 0 [.ref aq0, .ref aq1, .ref aq2, .ref aq3, .ref aq4, .ref aq5, .ref aq6, .int aacc, .long afees, .int amis, .int abel, .int aref, .int acau], eI aq0 ak0 8 ag0, eI aq1 ak1 8 ag1, eI aq2 ak2 8 ag2, eI aq3 ak3 8 ag3, eI aq4 ak4 8 g104, eI aq5 ak5 8 ag5, eI aq6 ak6 8 ag6, eO jp 2 [.ref pb, .ref pn, .int ps], eI pb kpb 80 fpb, eI pn kpn 80 fpn]) hP hD hS hA [(23, 2), (22, 1), (0, 11), (20, 1), (11, 3), (21, 1), (14, 3), (18, 2), (17, 1)] 25 rfl (by decide +kernel) rfl
          have hKc := K_s (tys' := [(km, .int), (kh, .int), (kk, .array .int), (kr0, .int), (kr1, .int), (kr2, .int), (kr3, .int), (kr4, .int), (kr5, .int), (kr6, .int), (kr7, .int), (kr8, .int), (kf, .long), (ak0, .int), (ak1, .int), (ak2, .int), (ak3, .boolean), (ak4, .int), (ak5, .int), (ak6, .int), (kpb, .int), (kpn, .int)]) hK [(21, 1), (20, 1), (0, 14), (19, 1), (14, 3), (18, 1), (17, 1)] rfl
          refine va_calli (va_runV (As := [.int p0, .int z114, .int dp]) (rest := []) ⟨hx, hb, hml, hown, hts⟩ (c_X6_inside l dC dI h0 p0 z114 dp jb qm q113 qh qk qf bg jp km q112 kh g109 kk fo ro0 kr0 fr0 ro1 kr1 fr1 ro2 kr2 fr2 ro3 kr3 fr3 ro4 kr4 fr4 ro5 kr5 fr5 ro6 kr6 fr6 ro7 kr7 fr7 ro8 kr8 fr8 kf ff aq0 aq1 aq2 aq3 aq4 aq5 aq6 aacc afees amis abel aref acau ak0 ag0 ak1 ag1 ak2 ag2 ak3 ag3 ak4 g104 ak5 ag5 ak6 ag6 pb pn ps kpb fpb kpn fpn nd H.size ra1 ra2 hp1 hp2 hb0 hf0 hf1 hf2 hf3 hf4 hf5 hf6 hf7 hf8 rb1 rb2 (by first | assumption | omega) (by first | assumption | omega) pl1 pl2 (by first | assumption | omega) (by first | assumption | omega) hd0 hdn ih) (cwV 3 hts gX6_block_X6_inside rfl rfl rfl (by decide +kernel) ⟨(show (10 * nd + 7) + 1 ≤ 10 * nd + 8 by omega), (show 8 + (4 + 11) + (200 * nd + 80) ≤ 200 * nd + 120 by omega)⟩) ⟨fun a U g mk q => by obtain ⟨q0, q1, qP, qK, qD⟩ := q; exact ⟨q0, q1, qP, va_K.moved (u := U) (U := U.calling g mk a) (Vm.Alike.refl U.vm) qK, qD⟩, va_recv (s := s) (q := (RX6, TX6, 8)) hKc hPc (ci := 5) (q0 := 0) rfl rfl, fun U hU hW => ⟨rfl, by rw [hU], by rw [hU]; exact hPc, va_K.moved hW.alike hKc, hDc.weaken (fun _ _ _ _ => trivial)⟩⟩ rfl rfl hl.1 rfl (lv_room (Nat.le_of_ble_eq_true rfl)) dX6_block_115 ⟨Nat.le_of_ble_eq_true rfl, Nat.le_of_ble_eq_true rfl⟩) hS (fun q _ h => hFc q h) hFc (fun r115 u t H1 locs ht hvm hw hB hz1 hk1 hS => ?_)
          refine Exists.elim hB ?_; clear hB; intro q116 hB
          refine Exists.elim hB ?_; clear hB; intro q117 hB
          refine Exists.elim hB ?_; clear hB; intro q118 hB
          refine Exists.elim hB ?_; clear hB; intro q119 hB
          refine Exists.elim hB ?_; clear hB; intro q120 hB
          refine Exists.elim hB ?_; clear hB; intro q121 hB
          refine Exists.elim hB ?_; clear hB; intro q122 hB
          refine Exists.elim hB ?_; clear hB; intro q123 hB
          refine Exists.elim hB ?_; clear hB; intro q124 hB
          refine Exists.elim hB ?_; clear hB; intro q125 hB
          refine Exists.elim hB ?_; clear hB; intro q126 hB
          refine Exists.elim hB ?_; clear hB; intro q127 hB
          refine Exists.elim hB ?_; clear hB; intro q128 hB
          refine Exists.elim hB ?_; clear hB; intro q129 hB
          refine Exists.elim hB ?_; clear hB; intro q130 hB
          refine Exists.elim hB ?_; clear hB; intro q131 hB
          refine Exists.elim hB ?_; clear hB; intro q132 hB
          refine Exists.elim hB ?_; clear hB; intro q133 hB
          refine Exists.elim hB ?_; clear hB; intro q134 hB
          refine Exists.elim hB ?_; clear hB; intro q135 hB
          refine Exists.elim hB ?_; clear hB; intro q136 hB
          refine Exists.elim hB ?_; clear hB; intro q137 hB
          refine Exists.elim hB ?_; clear hB; intro q138 hB
          have x1_r115 := hB.1
          replace hB := hB.2
          have x2_r115 := hB.1
          replace hB := hB.2
          have x3_r115 := hB.1
          replace hB := hB.2
          have x4_r115 := hB.1
          replace hB := hB.2
          obtain ⟨hP1, hK1, hD1⟩ := hB
          rw [ht] at hP1
          have hK1 := va_K.moved hvm.symm hK1
          try dsimp only at hw
          obtain ⟨hP, hD⟩ := J_s (wL := [eO h0 5 [.ref jb, .ref qm, .int q128, .ref qh, .ref qk, .ref qf, .int q129, .ref jp], eI qm km 60 q116, eI qh kh 8 q117, eR qk kk 9 fo, eI ro0 kr0 8 q118, eI ro1 kr1 8 q119, eI ro2 kr2 8 q120, eI ro3 kr3 8 q121, eI ro4 kr4 8 q122, eI ro5 kr5 8 q123, eI ro6 kr6 8 q124, eI ro7 kr7 8 q125, eI ro8 kr8 8 q126, eL qf kf 9 q127, eO jb 0 [.ref aq0, .ref aq1, .ref aq2, .ref aq3, .ref aq4, .ref aq5, .ref aq6, .int aacc, .long q134, .int q135, .int q136, .int q137, .int q138], eI aq0 ak0 8 ag0, eI aq1 ak1 8 q130, eI aq2 ak2 8 ag2, eI aq3 ak3 8 ag3, eI aq4 ak4 8 q131, eI aq5 ak5 8 q132, eI aq6 ak6 8 q133, eO jp 2 [.ref pb, .ref pn, .int ps], eI pb kpb 80 fpb, eI pn kpn 80 fpn]) hP hD [(23, 2), (22, 1), (0, 11), (20, 1), (11, 3), (21, 1), (14, 3), (18, 2), (17, 1)] [] hCm hNw (by decide +kernel) hk1 hFc hP1 hD1 rfl
          have hK := KJ_s (tys' := [(km, .int), (kh, .int), (kk, .array .int), (kr0, .int), (kr1, .int), (kr2, .int), (kr3, .int), (kr4, .int), (kr5, .int), (kr6, .int), (kr7, .int), (kr8, .int), (kf, .long), (ak0, .int), (ak1, .int), (ak2, .int), (ak3, .boolean), (ak4, .int), (ak5, .int), (ak6, .int), (kpb, .int), (kpn, .int)]) hK hK1 [] rfl
          generalize H1 = H at hP hS ⊢
          refine lv_istore (lv' := [(4, .int r115), (3, .int r2), (0, .ref h0), (1, .int p0), (2, .int dp)]) hx hb dX6_block_118 hl (by decide) rfl (fun ls hl => ?_)
          refine lv_aload_n hx hb dX6_block_120 rfl (lv_at hl 2 rfl) ?_
          refine va_get (D := (dC, dI)) (ci := 5) (v := .ref qh) (C := RX6) (T := TX6) (N := 8) hx hb hts (fun w h => List.mem_cons_of_mem _ (inlX6 w h)) hown hK hP 0 rfl rfl 3 (by decide) (hts (.fieldLink RX6 15 "ClearingGates$Runner" "held" "[I") (List.mem_cons_of_mem _ mw_191)) (fun _ h9 => h9) rfl dX6_block_121 ?_
          refine lv_iload_n hx hb dX6_block_124 rfl (lv_at hl 1 rfl) ?_
          refine lv_dup2_11 hx hb dX6_block_125 rfl rfl ?_
          refine va_iald (D := (dC, dI)) hx hb hK hP 2 1 rfl rfl (vp_in_iff.mpr ⟨by omega, by omega⟩) dX6_block_126 ?_
          refine lv_topi (fun z139 e_z139 => ?_)
          refine lv_iconst (v := 1) hx hb dX6_block_127 (by decide) ?_
          refine lv_isub hx hb dX6_block_128 ?_
          refine lv_topi (fun z140 e_z140 => ?_)
          (first | have t_z140 := i_sub e_z140 (by omega) (by omega) | skip)
          refine va_iast (D := (dC, dI)) hx hb hK hP hD hS 2 1 rfl rfl (vp_in_iff.mpr ⟨by omega, by omega⟩) dX6_block_129 (fun H locs hP hD hS => ?_)
          generalize e_g141 : (upd q117 (r2).toNatClampNeg z140) = g141 at hP hD
          obtain ⟨hP, hD⟩ := X_s (ws' := [eO h0 5 [.ref jb, .ref qm, .int q128, .ref qh, .ref qk, .ref qf, .int q129, .ref jp], eI qm km 60 q116, eI qh kh 8 g141, eR qk kk 9 fo, eI ro0 kr0 8 q118, eI ro1 kr1 8 q119, eI ro2 kr2 8 q120, eI ro3 kr3 8 q121, eI ro4 kr4 8 q122, eI ro5 kr5 8 q123, eI ro6 kr6 8 q124, eI ro7 kr7 8 q125, eI ro8 kr8 8 q126, eL qf kf 9 q127, eO jb 0 [.ref aq0, .ref aq1, .ref aq2, .ref aq3, .ref aq4, .ref aq5, .ref aq6, .int aacc, .long q134, .int q135, .int q136, .int q137, .int q138], eI aq0 ak0 8 ag0, eI aq1 ak1 8 q130, eI aq2 ak2 8 ag2, eI aq3 ak3 8 ag3, eI aq4 ak4 8 q131, eI aq5 ak5 8 q132, eI aq6 ak6 8 q133, eO jp 2 [.ref pb, .ref pn, .int ps], eI pb kpb 80 fpb, eI pn kpn 80 fpn]) hP hD rfl
          refine lv_aload_n hx hb dX6_block_130 rfl (lv_at hl 2 rfl) ?_
          refine va_get (D := (dC, dI)) (ci := 5) (v := .ref jb) (C := RX6) (T := TX6) (N := 8) hx hb hts (fun w h => List.mem_cons_of_mem _ (inlX6 w h)) hown hK hP 0 rfl rfl 0 (by decide) (hts (.fieldLink RX6 27 "ClearingGates$Runner" "books" "LClearingGates$Books;") (List.mem_cons_of_mem _ mw_185)) (fun _ h9 => h9) rfl dX6_block_131 ?_
          refine va_get (D := (dC, dI)) (ci := 0) (v := .ref aq5) (C := RX0) (T := TX0) (N := 13) hx hb hts (fun w h => List.mem_cons_of_mem _ (inlX0 w h)) hown hK hP 14 rfl rfl 5 (by decide) (hts (.fieldLink RX6 119 "ClearingGates$Books" "leavings" "[I") (List.mem_cons_of_mem _ mw_108)) (fun _ h9 => h9) rfl dX6_block_134 ?_
          refine lv_iload_n hx hb dX6_block_137 rfl (lv_at hl 1 rfl) ?_
          refine lv_dup2_11 hx hb dX6_block_138 rfl rfl ?_
          refine va_iald (D := (dC, dI)) hx hb hK hP 20 18 rfl rfl (vp_in_iff.mpr ⟨by omega, by omega⟩) dX6_block_139 ?_
          refine lv_topi (fun z142 e_z142 => ?_)
          refine lv_iconst (v := 1) hx hb dX6_block_140 (by decide) ?_
          refine lv_iadd hx hb dX6_block_141 ?_
          refine lv_topi (fun z143 e_z143 => ?_)
          (first | have t_z143 := i_add e_z143 (by omega) (by omega) | skip)
          refine va_iast (D := (dC, dI)) hx hb hK hP hD hS 20 18 rfl rfl (vp_in_iff.mpr ⟨by omega, by omega⟩) dX6_block_142 (fun H locs hP hD hS => ?_)
          generalize e_g144 : (upd q132 (r2).toNatClampNeg z143) = g144 at hP hD
          obtain ⟨hP, hD⟩ := X_s (ws' := [eO h0 5 [.ref jb, .ref qm, .int q128, .ref qh, .ref qk, .ref qf, .int q129, .ref jp], eI qm km 60 q116, eI qh kh 8 g141, eR qk kk 9 fo, eI ro0 kr0 8 q118, eI ro1 kr1 8 q119, eI ro2 kr2 8 q120, eI ro3 kr3 8 q121, eI ro4 kr4 8 q122, eI ro5 kr5 8 q123, eI ro6 kr6 8 q124, eI ro7 kr7 8 q125, eI ro8 kr8 8 q126, eL qf kf 9 q127, eO jb 0 [.ref aq0, .ref aq1, .ref aq2, .ref aq3, .ref aq4, .ref aq5, .ref aq6, .int aacc, .long q134, .int q135, .int q136, .int q137, .int q138], eI aq0 ak0 8 ag0, eI aq1 ak1 8 q130, eI aq2 ak2 8 ag2, eI aq3 ak3 8 ag3, eI aq4 ak4 8 q131, eI aq5 ak5 8 g144, eI aq6 ak6 8 q133, eO jp 2 [.ref pb, .ref pn, .int ps], eI pb kpb 80 fpb, eI pn kpn 80 fpn]) hP hD rfl
          refine lv_aload_n hx hb dX6_block_143 rfl (lv_at hl 2 rfl) ?_
          refine lv_bipush (v := 20) hx hb dX6_block_144 (by decide) ?_
          refine lv_iload_n hx hb dX6_block_146 rfl (lv_at hl 1 rfl) ?_
          refine lv_iadd hx hb dX6_block_147 ?_
          refine lv_topi (fun z145 e_z145 => ?_)
          (first | have t_z145 := i_add e_z145 (by omega) (by omega) | skip)
          obtain ⟨hPc, hDc, hFc, hCm, hNw⟩ := C_s (wc := [eO h0 5 [.ref jb, .ref qm, .int q128, .ref qh, .ref qk, .ref qf, .int q129, .ref jp], eI qm km 60 q116]) hP hD hS hA [(0, 2)] 25 rfl (by decide +kernel) rfl
          have hKc := K_s (tys' := [(km, .int)]) hK [(0, 1)] rfl
          refine va_callv (va_runV (As := [.int z145]) (rest := []) ⟨hx, hb, hml, hown, hts⟩ (c_X6_mark l dC dI h0 z145 jb qm q128 qh qk qf q129 jp km q116 H.size (by first | assumption | omega) (by first | assumption | omega)) (cwV 1 hts gX6_block_X6_mark rfl rfl rfl (by decide +kernel) ⟨(show (0) + 1 ≤ 10 * nd + 8 by omega), (show 8 + (2 + 11) + (0) ≤ 200 * nd + 120 by omega)⟩) ⟨fun a U g mk q => by obtain ⟨q0, q1, qP, qK, qD⟩ := q; exact ⟨q0, q1, qP, va_K.moved (u := U) (U := U.calling g mk a) (Vm.Alike.refl U.vm) qK, qD⟩, va_recv (s := s) (q := (RX6, TX6, 8)) hKc hPc (ci := 5) (q0 := 0) rfl rfl, fun U hU hW => ⟨rfl, by rw [hU], by rw [hU]; exact hPc, va_K.moved hW.alike hKc, hDc.weaken (fun _ _ _ _ => trivial)⟩⟩ rfl rfl hl.1 rfl (lv_room (Nat.le_of_ble_eq_true rfl)) dX6_block_148 ⟨Nat.le_of_ble_eq_true rfl, Nat.le_of_ble_eq_true rfl⟩) hS (fun q _ h => hFc q h) hFc (fun u t H1 locs ht hvm hw hB hz1 hk1 hS => ?_)
          obtain ⟨q147, q148, x1_r146, hP1, hK1, hD1⟩ := hB
          rw [ht] at hP1
          have hK1 := va_K.moved hvm.symm hK1
          try dsimp only at hw
          obtain ⟨hP, hD⟩ := J_s (wL := [eI qh kh 8 g141, eR qk kk 9 fo, eI ro0 kr0 8 q118, eI ro1 kr1 8 q119, eI ro2 kr2 8 q120, eI ro3 kr3 8 q121, eI ro4 kr4 8 q122, eI ro5 kr5 8 q123, eI ro6 kr6 8 q124, eI ro7 kr7 8 q125, eI ro8 kr8 8 q126, eL qf kf 9 q127, eO jb 0 [.ref aq0, .ref aq1, .ref aq2, .ref aq3, .ref aq4, .ref aq5, .ref aq6, .int aacc, .long q134, .int q135, .int q136, .int q137, .int q138], eI aq0 ak0 8 ag0, eI aq1 ak1 8 q130, eI aq2 ak2 8 ag2, eI aq3 ak3 8 ag3, eI aq4 ak4 8 q131, eI aq5 ak5 8 g144, eI aq6 ak6 8 q133, eO jp 2 [.ref pb, .ref pn, .int ps], eI pb kpb 80 fpb, eI pn kpn 80 fpn, eO h0 5 [.ref jb, .ref qm, .int q148, .ref qh, .ref qk, .ref qf, .int q129, .ref jp], eI qm km 60 q147]) hP hD [(0, 2)] [(2, 23)] hCm hNw (by decide +kernel) hk1 hFc hP1 hD1 rfl
          have hK := KJ_s (tys' := [(kh, .int), (kk, .array .int), (kr0, .int), (kr1, .int), (kr2, .int), (kr3, .int), (kr4, .int), (kr5, .int), (kr6, .int), (kr7, .int), (kr8, .int), (kf, .long), (ak0, .int), (ak1, .int), (ak2, .int), (ak3, .boolean), (ak4, .int), (ak5, .int), (ak6, .int), (kpb, .int), (kpn, .int), (km, .int)]) hK hK1 [(1, 21)] rfl
          generalize H1 = H at hP hS ⊢
          refine lv_iload hx hb dX6_block_151 (lv_at hl 0 rfl) ?_
          rw [hQ9]
          exact W.iret (v := r115) hx hb hr (fun t ht hW => ⟨⟨r115, (), rfl, (by first | rfl | trivial), q147, g141, q118, q119, q120, q121, q122, q123, q124, q125, q126, q127, q148, q129, q130, q131, g144, q133, q134, q135, q136, q137, q138, (by first | assumption | omega), (by first | assumption | omega), (by first | assumption | omega), (by first | assumption | omega), by rw [ht]; exact P_s hP [(23, 2), (0, 23)] rfl, va_K.moved hW.alike (K_s hK [(21, 1), (0, 21)] rfl), D_s hD [(23, 2), (0, 23)] 25 rfl (by decide +kernel) rfl⟩, hS.F ht⟩) hS.2.2 dX6_block_153
        · skip
          have f_c106 := i_nle c106
          refine lv_aload_n hx hb dX6_block_78 rfl (lv_at hl 1 rfl) ?_
          refine va_get (D := (dC, dI)) (ci := 5) (v := .ref jb) (C := RX6) (T := TX6) (N := 8) hx hb hts (fun w h => List.mem_cons_of_mem _ (inlX6 w h)) hown hK hP 23 rfl rfl 0 (by decide) (hts (.fieldLink RX6 27 "ClearingGates$Runner" "books" "LClearingGates$Books;") (List.mem_cons_of_mem _ mw_185)) (fun _ h9 => h9) rfl dX6_block_79 ?_
          refine va_get (D := (dC, dI)) (ci := 0) (v := .ref aq6) (C := RX0) (T := TX0) (N := 13) hx hb hts (fun w h => List.mem_cons_of_mem _ (inlX0 w h)) hown hK hP 21 rfl rfl 6 (by decide) (hts (.fieldLink RX6 110 "ClearingGates$Books" "agains" "[I") (List.mem_cons_of_mem _ mw_111)) (fun _ h9 => h9) rfl dX6_block_82 ?_
          refine lv_iload_n hx hb dX6_block_85 rfl (lv_at hl 0 rfl) ?_
          refine lv_dup2_11 hx hb dX6_block_86 rfl rfl ?_
          refine va_iald (D := (dC, dI)) hx hb hK hP 17 17 rfl rfl (vp_in_iff.mpr ⟨by omega, by omega⟩) dX6_block_87 ?_
          refine lv_topi (fun z149 e_z149 => ?_)
          refine lv_iconst (v := 1) hx hb dX6_block_88 (by decide) ?_
          refine lv_iadd hx hb dX6_block_89 ?_
          refine lv_topi (fun z150 e_z150 => ?_)
          (first | have t_z150 := i_add e_z150 (by omega) (by omega) | skip)
          refine va_iast (D := (dC, dI)) hx hb hK hP hD hS 17 17 rfl rfl (vp_in_iff.mpr ⟨by omega, by omega⟩) dX6_block_90 (fun H locs hP hD hS => ?_)
          generalize e_g151 : (upd ag6 (r2).toNatClampNeg z150) = g151 at hP hD
          obtain ⟨hP, hD⟩ := X_s (ws' := [eI qm km 60 fm, eR qk kk 9 fo, eI ro0 kr0 8 fr0, eI ro1 kr1 8 fr1, eI ro2 kr2 8 fr2, eI ro3 kr3 8 fr3, eI ro4 kr4 8 fr4, eI ro5 kr5 8 fr5, eI ro6 kr6 8 fr6, eI ro7 kr7 8 fr7, eI ro8 kr8 8 fr8, eL qf kf 9 ff, eI aq0 ak0 8 ag0, eI aq1 ak1 8 ag1, eI aq2 ak2 8 ag2, eI aq4 ak4 8 g104, eI aq5 ak5 8 ag5, eI aq6 ak6 8 g151, eI pn kpn 80 fpn, eO jp 2 [.ref pb, .ref pn, .int ps], eI pb kpb 80 fpb, eO jb 0 [.ref aq0, .ref aq1, .ref aq2, .ref aq3, .ref aq4, .ref aq5, .ref aq6, .int aacc, .long afees, .int amis, .int abel, .int aref, .int acau], eI aq3 ak3 8 ag3, eO h0 5 [.ref jb, .ref qm, .int mc, .ref qh, .ref qk, .ref qf, .int bg, .ref jp], eI qh kh 8 fh]) hP hD rfl
          refine lv_aload_n hx hb dX6_block_91 rfl (lv_at hl 1 rfl) ?_
          refine va_get (D := (dC, dI)) (ci := 5) (v := .ref qh) (C := RX6) (T := TX6) (N := 8) hx hb hts (fun w h => List.mem_cons_of_mem _ (inlX6 w h)) hown hK hP 23 rfl rfl 3 (by decide) (hts (.fieldLink RX6 15 "ClearingGates$Runner" "held" "[I") (List.mem_cons_of_mem _ mw_191)) (fun _ h9 => h9) rfl dX6_block_92 ?_
          refine lv_iload_n hx hb dX6_block_95 rfl (lv_at hl 0 rfl) ?_
          refine lv_dup2_11 hx hb dX6_block_96 rfl rfl ?_
          refine va_iald (D := (dC, dI)) hx hb hK hP 24 21 rfl rfl (vp_in_iff.mpr ⟨by omega, by omega⟩) dX6_block_97 ?_
          refine lv_topi (fun z152 e_z152 => ?_)
          refine lv_iconst (v := 1) hx hb dX6_block_98 (by decide) ?_
          refine lv_iadd hx hb dX6_block_99 ?_
          refine lv_topi (fun z153 e_z153 => ?_)
          (first | have t_z153 := i_add e_z153 (by omega) (by omega) | skip)
          refine va_iast (D := (dC, dI)) hx hb hK hP hD hS 24 21 rfl rfl (vp_in_iff.mpr ⟨by omega, by omega⟩) dX6_block_100 (fun H locs hP hD hS => ?_)
          generalize e_g154 : (upd fh (r2).toNatClampNeg z153) = g154 at hP hD
          obtain ⟨hP, hD⟩ := X_s (ws' := [eI qm km 60 fm, eR qk kk 9 fo, eI ro0 kr0 8 fr0, eI ro1 kr1 8 fr1, eI ro2 kr2 8 fr2, eI ro3 kr3 8 fr3, eI ro4 kr4 8 fr4, eI ro5 kr5 8 fr5, eI ro6 kr6 8 fr6, eI ro7 kr7 8 fr7, eI ro8 kr8 8 fr8, eL qf kf 9 ff, eI aq0 ak0 8 ag0, eI aq1 ak1 8 ag1, eI aq2 ak2 8 ag2, eI aq4 ak4 8 g104, eI aq5 ak5 8 ag5, eI aq6 ak6 8 g151, eI pn kpn 80 fpn, eO jp 2 [.ref pb, .ref pn, .int ps], eI pb kpb 80 fpb, eO jb 0 [.ref aq0, .ref aq1, .ref aq2, .ref aq3, .ref aq4, .ref aq5, .ref aq6, .int aacc, .long afees, .int amis, .int abel, .int aref, .int acau], eI aq3 ak3 8 ag3, eO h0 5 [.ref jb, .ref qm, .int mc, .ref qh, .ref qk, .ref qf, .int bg, .ref jp], eI qh kh 8 g154]) hP hD rfl
          refine lv_aload_n hx hb dX6_block_101 rfl (lv_at hl 1 rfl) ?_
          refine lv_bipush (v := 10) hx hb dX6_block_102 (by decide) ?_
          refine lv_iload_n hx hb dX6_block_104 rfl (lv_at hl 0 rfl) ?_
          refine lv_iadd hx hb dX6_block_105 ?_
          refine lv_topi (fun z155 e_z155 => ?_)
          (first | have t_z155 := i_add e_z155 (by omega) (by omega) | skip)
          obtain ⟨hPc, hDc, hFc, hCm, hNw⟩ := C_s (wc := [eO h0 5 [.ref jb, .ref qm, .int mc, .ref qh, .ref qk, .ref qf, .int bg, .ref jp], eI qm km 60 fm]) hP hD hS hA [(23, 1), (0, 1)] 25 rfl (by decide +kernel) rfl
          have hKc := K_s (tys' := [(km, .int)]) hK [(0, 1)] rfl
          refine va_callv (va_runV (As := [.int z155]) (rest := []) ⟨hx, hb, hml, hown, hts⟩ (c_X6_mark l dC dI h0 z155 jb qm mc qh qk qf bg jp km fm H.size rb3 (by first | assumption | omega)) (cwV 1 hts gX6_block_X6_mark rfl rfl rfl (by decide +kernel) ⟨(show (0) + 1 ≤ 10 * nd + 8 by omega), (show 8 + (2 + 11) + (0) ≤ 200 * nd + 120 by omega)⟩) ⟨fun a U g mk q => by obtain ⟨q0, q1, qP, qK, qD⟩ := q; exact ⟨q0, q1, qP, va_K.moved (u := U) (U := U.calling g mk a) (Vm.Alike.refl U.vm) qK, qD⟩, va_recv (s := s) (q := (RX6, TX6, 8)) hKc hPc (ci := 5) (q0 := 0) rfl rfl, fun U hU hW => ⟨rfl, by rw [hU], by rw [hU]; exact hPc, va_K.moved hW.alike hKc, hDc.weaken (fun _ _ _ _ => trivial)⟩⟩ rfl rfl hl.1 rfl (lv_room (Nat.le_of_ble_eq_true rfl)) dX6_block_106 ⟨Nat.le_of_ble_eq_true rfl, Nat.le_of_ble_eq_true rfl⟩) hS (fun q _ h => hFc q h) hFc (fun u t H1 locs ht hvm hw hB hz1 hk1 hS => ?_)
          obtain ⟨q157, q158, x1_r156, hP1, hK1, hD1⟩ := hB
          rw [ht] at hP1
          have hK1 := va_K.moved hvm.symm hK1
          try dsimp only at hw
          obtain ⟨hP, hD⟩ := J_s (wL := [eR qk kk 9 fo, eI ro0 kr0 8 fr0, eI ro1 kr1 8 fr1, eI ro2 kr2 8 fr2, eI ro3 kr3 8 fr3, eI ro4 kr4 8 fr4, eI ro5 kr5 8 fr5, eI ro6 kr6 8 fr6, eI ro7 kr7 8 fr7, eI ro8 kr8 8 fr8, eL qf kf 9 ff, eI aq0 ak0 8 ag0, eI aq1 ak1 8 ag1, eI aq2 ak2 8 ag2, eI aq4 ak4 8 g104, eI aq5 ak5 8 ag5, eI aq6 ak6 8 g151, eI pn kpn 80 fpn, eO jp 2 [.ref pb, .ref pn, .int ps], eI pb kpb 80 fpb, eO jb 0 [.ref aq0, .ref aq1, .ref aq2, .ref aq3, .ref aq4, .ref aq5, .ref aq6, .int aacc, .long afees, .int amis, .int abel, .int aref, .int acau], eI aq3 ak3 8 ag3, eI qh kh 8 g154, eO h0 5 [.ref jb, .ref qm, .int q158, .ref qh, .ref qk, .ref qf, .int bg, .ref jp], eI qm km 60 q157]) hP hD [(23, 1), (0, 1)] [(1, 22), (24, 1)] hCm hNw (by decide +kernel) hk1 hFc hP1 hD1 rfl
          have hK := KJ_s (tys' := [(kk, .array .int), (kr0, .int), (kr1, .int), (kr2, .int), (kr3, .int), (kr4, .int), (kr5, .int), (kr6, .int), (kr7, .int), (kr8, .int), (kf, .long), (ak0, .int), (ak1, .int), (ak2, .int), (ak4, .int), (ak5, .int), (ak6, .int), (kpn, .int), (kpb, .int), (ak3, .boolean), (kh, .int), (km, .int)]) hK hK1 [(1, 21)] rfl
          generalize H1 = H at hP hS ⊢
          refine lv_aload_n hx hb dX6_block_109 rfl (lv_at hl 1 rfl) ?_
          refine lv_iload_n hx hb dX6_block_110 rfl (lv_at hl 2 rfl) ?_
          refine lv_iload_n hx hb dX6_block_111 rfl (lv_at hl 2 rfl) ?_
          refine lv_iconst (v := 2) hx hb dX6_block_112 (by decide) ?_
          refine lv_iadd hx hb dX6_block_113 ?_
          refine lv_topi (fun z159 e_z159 => ?_)
          (first | have t_z159 := i_add e_z159 (by omega) (by omega) | skip)
          refine lv_iload_n hx hb dX6_block_114 rfl (lv_at hl 3 rfl) ?_
          obtain ⟨hPc, hDc, hFc, hCm, hNw⟩ := C_s (wc := [eO h0 5 [.ref jb, .ref qm, .int q158, .ref qh, .ref qk, .ref qf, .int bg, .ref jp], eI qm km 60 q157, eI qh kh 8 g154, eR qk kk 9 fo, eI ro0 kr0 8 fr0, eI ro1 kr1 8 fr1, eI ro2 kr2 8 fr2, eI ro3 kr3 8 fr3, eI ro4 kr4 8 fr4, eI ro5 kr5 8 fr5, eI ro6 kr6 8 fr6, eI ro7 kr7 8 fr7, eI ro8 kr8 8 fr8, eL qf kf 9 ff, eO jb 0 [.ref aq0, .ref aq1, .ref aq2, .ref aq3, .ref aq4, .ref aq5, .ref aq6, .int aacc, .long afees, .int amis, .int abel, .int aref, .int acau], eI aq0 ak0 8 ag0, eI aq1 ak1 8 ag1, eI aq2 ak2 8 ag2, eI aq3 ak3 8 ag3, eI aq4 ak4 8 g104, eI aq5 ak5 8 ag5, eI aq6 ak6 8 g151, eO jp 2 [.ref pb, .ref pn, .int ps], eI pb kpb 80 fpb, eI pn kpn 80 fpn]) hP hD hS hA [(23, 2), (22, 1), (0, 11), (20, 1), (11, 3), (21, 1), (14, 3), (18, 2), (17, 1)] 25 rfl (by decide +kernel) rfl
          have hKc := K_s (tys' := [(km, .int), (kh, .int), (kk, .array .int), (kr0, .int), (kr1, .int), (kr2, .int), (kr3, .int), (kr4, .int), (kr5, .int), (kr6, .int), (kr7, .int), (kr8, .int), (kf, .long), (ak0, .int), (ak1, .int), (ak2, .int), (ak3, .boolean), (ak4, .int), (ak5, .int), (ak6, .int), (kpb, .int), (kpn, .int)]) hK [(21, 1), (20, 1), (0, 14), (19, 1), (14, 3), (18, 1), (17, 1)] rfl
          refine va_calli (va_runV (As := [.int p0, .int z159, .int dp]) (rest := []) ⟨hx, hb, hml, hown, hts⟩ (c_X6_inside l dC dI h0 p0 z159 dp jb qm q158 qh qk qf bg jp km q157 kh g154 kk fo ro0 kr0 fr0 ro1 kr1 fr1 ro2 kr2 fr2 ro3 kr3 fr3 ro4 kr4 fr4 ro5 kr5 fr5 ro6 kr6 fr6 ro7 kr7 fr7 ro8 kr8 fr8 kf ff aq0 aq1 aq2 aq3 aq4 aq5 aq6 aacc afees amis abel aref acau ak0 ag0 ak1 ag1 ak2 ag2 ak3 ag3 ak4 g104 ak5 ag5 ak6 g151 pb pn ps kpb fpb kpn fpn nd H.size ra1 ra2 hp1 hp2 hb0 hf0 hf1 hf2 hf3 hf4 hf5 hf6 hf7 hf8 rb1 rb2 (by first | assumption | omega) (by first | assumption | omega) pl1 pl2 (by first | assumption | omega) (by first | assumption | omega) hd0 hdn ih) (cwV 3 hts gX6_block_X6_inside rfl rfl rfl (by decide +kernel) ⟨(show (10 * nd + 7) + 1 ≤ 10 * nd + 8 by omega), (show 8 + (4 + 11) + (200 * nd + 80) ≤ 200 * nd + 120 by omega)⟩) ⟨fun a U g mk q => by obtain ⟨q0, q1, qP, qK, qD⟩ := q; exact ⟨q0, q1, qP, va_K.moved (u := U) (U := U.calling g mk a) (Vm.Alike.refl U.vm) qK, qD⟩, va_recv (s := s) (q := (RX6, TX6, 8)) hKc hPc (ci := 5) (q0 := 0) rfl rfl, fun U hU hW => ⟨rfl, by rw [hU], by rw [hU]; exact hPc, va_K.moved hW.alike hKc, hDc.weaken (fun _ _ _ _ => trivial)⟩⟩ rfl rfl hl.1 rfl (lv_room (Nat.le_of_ble_eq_true rfl)) dX6_block_115 ⟨Nat.le_of_ble_eq_true rfl, Nat.le_of_ble_eq_true rfl⟩) hS (fun q _ h => hFc q h) hFc (fun r160 u t H1 locs ht hvm hw hB hz1 hk1 hS => ?_)
          refine Exists.elim hB ?_; clear hB; intro q161 hB
          refine Exists.elim hB ?_; clear hB; intro q162 hB
          refine Exists.elim hB ?_; clear hB; intro q163 hB
          refine Exists.elim hB ?_; clear hB; intro q164 hB
          refine Exists.elim hB ?_; clear hB; intro q165 hB
          refine Exists.elim hB ?_; clear hB; intro q166 hB
          refine Exists.elim hB ?_; clear hB; intro q167 hB
          refine Exists.elim hB ?_; clear hB; intro q168 hB
          refine Exists.elim hB ?_; clear hB; intro q169 hB
          refine Exists.elim hB ?_; clear hB; intro q170 hB
          refine Exists.elim hB ?_; clear hB; intro q171 hB
          refine Exists.elim hB ?_; clear hB; intro q172 hB
          refine Exists.elim hB ?_; clear hB; intro q173 hB
          refine Exists.elim hB ?_; clear hB; intro q174 hB
          refine Exists.elim hB ?_; clear hB; intro q175 hB
          refine Exists.elim hB ?_; clear hB; intro q176 hB
          refine Exists.elim hB ?_; clear hB; intro q177 hB
          refine Exists.elim hB ?_; clear hB; intro q178 hB
          refine Exists.elim hB ?_; clear hB; intro q179 hB
          refine Exists.elim hB ?_; clear hB; intro q180 hB
          refine Exists.elim hB ?_; clear hB; intro q181 hB
          refine Exists.elim hB ?_; clear hB; intro q182 hB
          refine Exists.elim hB ?_; clear hB; intro q183 hB
          have x1_r160 := hB.1
          replace hB := hB.2
          have x2_r160 := hB.1
          replace hB := hB.2
          have x3_r160 := hB.1
          replace hB := hB.2
          have x4_r160 := hB.1
          replace hB := hB.2
          obtain ⟨hP1, hK1, hD1⟩ := hB
          rw [ht] at hP1
          have hK1 := va_K.moved hvm.symm hK1
          try dsimp only at hw
          obtain ⟨hP, hD⟩ := J_s (wL := [eO h0 5 [.ref jb, .ref qm, .int q173, .ref qh, .ref qk, .ref qf, .int q174, .ref jp], eI qm km 60 q161, eI qh kh 8 q162, eR qk kk 9 fo, eI ro0 kr0 8 q163, eI ro1 kr1 8 q164, eI ro2 kr2 8 q165, eI ro3 kr3 8 q166, eI ro4 kr4 8 q167, eI ro5 kr5 8 q168, eI ro6 kr6 8 q169, eI ro7 kr7 8 q170, eI ro8 kr8 8 q171, eL qf kf 9 q172, eO jb 0 [.ref aq0, .ref aq1, .ref aq2, .ref aq3, .ref aq4, .ref aq5, .ref aq6, .int aacc, .long q179, .int q180, .int q181, .int q182, .int q183], eI aq0 ak0 8 ag0, eI aq1 ak1 8 q175, eI aq2 ak2 8 ag2, eI aq3 ak3 8 ag3, eI aq4 ak4 8 q176, eI aq5 ak5 8 q177, eI aq6 ak6 8 q178, eO jp 2 [.ref pb, .ref pn, .int ps], eI pb kpb 80 fpb, eI pn kpn 80 fpn]) hP hD [(23, 2), (22, 1), (0, 11), (20, 1), (11, 3), (21, 1), (14, 3), (18, 2), (17, 1)] [] hCm hNw (by decide +kernel) hk1 hFc hP1 hD1 rfl
          have hK := KJ_s (tys' := [(km, .int), (kh, .int), (kk, .array .int), (kr0, .int), (kr1, .int), (kr2, .int), (kr3, .int), (kr4, .int), (kr5, .int), (kr6, .int), (kr7, .int), (kr8, .int), (kf, .long), (ak0, .int), (ak1, .int), (ak2, .int), (ak3, .boolean), (ak4, .int), (ak5, .int), (ak6, .int), (kpb, .int), (kpn, .int)]) hK hK1 [] rfl
          generalize H1 = H at hP hS ⊢
          refine lv_istore (lv' := [(4, .int r160), (3, .int r2), (0, .ref h0), (1, .int p0), (2, .int dp)]) hx hb dX6_block_118 hl (by decide) rfl (fun ls hl => ?_)
          refine lv_aload_n hx hb dX6_block_120 rfl (lv_at hl 2 rfl) ?_
          refine va_get (D := (dC, dI)) (ci := 5) (v := .ref qh) (C := RX6) (T := TX6) (N := 8) hx hb hts (fun w h => List.mem_cons_of_mem _ (inlX6 w h)) hown hK hP 0 rfl rfl 3 (by decide) (hts (.fieldLink RX6 15 "ClearingGates$Runner" "held" "[I") (List.mem_cons_of_mem _ mw_191)) (fun _ h9 => h9) rfl dX6_block_121 ?_
          refine lv_iload_n hx hb dX6_block_124 rfl (lv_at hl 1 rfl) ?_
          refine lv_dup2_11 hx hb dX6_block_125 rfl rfl ?_
          refine va_iald (D := (dC, dI)) hx hb hK hP 2 1 rfl rfl (vp_in_iff.mpr ⟨by omega, by omega⟩) dX6_block_126 ?_
          refine lv_topi (fun z184 e_z184 => ?_)
          refine lv_iconst (v := 1) hx hb dX6_block_127 (by decide) ?_
          refine lv_isub hx hb dX6_block_128 ?_
          refine lv_topi (fun z185 e_z185 => ?_)
          (first | have t_z185 := i_sub e_z185 (by omega) (by omega) | skip)
          refine va_iast (D := (dC, dI)) hx hb hK hP hD hS 2 1 rfl rfl (vp_in_iff.mpr ⟨by omega, by omega⟩) dX6_block_129 (fun H locs hP hD hS => ?_)
          generalize e_g186 : (upd q162 (r2).toNatClampNeg z185) = g186 at hP hD
          obtain ⟨hP, hD⟩ := X_s (ws' := [eO h0 5 [.ref jb, .ref qm, .int q173, .ref qh, .ref qk, .ref qf, .int q174, .ref jp], eI qm km 60 q161, eI qh kh 8 g186, eR qk kk 9 fo, eI ro0 kr0 8 q163, eI ro1 kr1 8 q164, eI ro2 kr2 8 q165, eI ro3 kr3 8 q166, eI ro4 kr4 8 q167, eI ro5 kr5 8 q168, eI ro6 kr6 8 q169, eI ro7 kr7 8 q170, eI ro8 kr8 8 q171, eL qf kf 9 q172, eO jb 0 [.ref aq0, .ref aq1, .ref aq2, .ref aq3, .ref aq4, .ref aq5, .ref aq6, .int aacc, .long q179, .int q180, .int q181, .int q182, .int q183], eI aq0 ak0 8 ag0, eI aq1 ak1 8 q175, eI aq2 ak2 8 ag2, eI aq3 ak3 8 ag3, eI aq4 ak4 8 q176, eI aq5 ak5 8 q177, eI aq6 ak6 8 q178, eO jp 2 [.ref pb, .ref pn, .int ps], eI pb kpb 80 fpb, eI pn kpn 80 fpn]) hP hD rfl
          refine lv_aload_n hx hb dX6_block_130 rfl (lv_at hl 2 rfl) ?_
          refine va_get (D := (dC, dI)) (ci := 5) (v := .ref jb) (C := RX6) (T := TX6) (N := 8) hx hb hts (fun w h => List.mem_cons_of_mem _ (inlX6 w h)) hown hK hP 0 rfl rfl 0 (by decide) (hts (.fieldLink RX6 27 "ClearingGates$Runner" "books" "LClearingGates$Books;") (List.mem_cons_of_mem _ mw_185)) (fun _ h9 => h9) rfl dX6_block_131 ?_
          refine va_get (D := (dC, dI)) (ci := 0) (v := .ref aq5) (C := RX0) (T := TX0) (N := 13) hx hb hts (fun w h => List.mem_cons_of_mem _ (inlX0 w h)) hown hK hP 14 rfl rfl 5 (by decide) (hts (.fieldLink RX6 119 "ClearingGates$Books" "leavings" "[I") (List.mem_cons_of_mem _ mw_108)) (fun _ h9 => h9) rfl dX6_block_134 ?_
          refine lv_iload_n hx hb dX6_block_137 rfl (lv_at hl 1 rfl) ?_
          refine lv_dup2_11 hx hb dX6_block_138 rfl rfl ?_
          refine va_iald (D := (dC, dI)) hx hb hK hP 20 18 rfl rfl (vp_in_iff.mpr ⟨by omega, by omega⟩) dX6_block_139 ?_
          refine lv_topi (fun z187 e_z187 => ?_)
          refine lv_iconst (v := 1) hx hb dX6_block_140 (by decide) ?_
          refine lv_iadd hx hb dX6_block_141 ?_
          refine lv_topi (fun z188 e_z188 => ?_)
          (first | have t_z188 := i_add e_z188 (by omega) (by omega) | skip)
          refine va_iast (D := (dC, dI)) hx hb hK hP hD hS 20 18 rfl rfl (vp_in_iff.mpr ⟨by omega, by omega⟩) dX6_block_142 (fun H locs hP hD hS => ?_)
          generalize e_g189 : (upd q177 (r2).toNatClampNeg z188) = g189 at hP hD
          obtain ⟨hP, hD⟩ := X_s (ws' := [eO h0 5 [.ref jb, .ref qm, .int q173, .ref qh, .ref qk, .ref qf, .int q174, .ref jp], eI qm km 60 q161, eI qh kh 8 g186, eR qk kk 9 fo, eI ro0 kr0 8 q163, eI ro1 kr1 8 q164, eI ro2 kr2 8 q165, eI ro3 kr3 8 q166, eI ro4 kr4 8 q167, eI ro5 kr5 8 q168, eI ro6 kr6 8 q169, eI ro7 kr7 8 q170, eI ro8 kr8 8 q171, eL qf kf 9 q172, eO jb 0 [.ref aq0, .ref aq1, .ref aq2, .ref aq3, .ref aq4, .ref aq5, .ref aq6, .int aacc, .long q179, .int q180, .int q181, .int q182, .int q183], eI aq0 ak0 8 ag0, eI aq1 ak1 8 q175, eI aq2 ak2 8 ag2, eI aq3 ak3 8 ag3, eI aq4 ak4 8 q176, eI aq5 ak5 8 g189, eI aq6 ak6 8 q178, eO jp 2 [.ref pb, .ref pn, .int ps], eI pb kpb 80 fpb, eI pn kpn 80 fpn]) hP hD rfl
          refine lv_aload_n hx hb dX6_block_143 rfl (lv_at hl 2 rfl) ?_
          refine lv_bipush (v := 20) hx hb dX6_block_144 (by decide) ?_
          refine lv_iload_n hx hb dX6_block_146 rfl (lv_at hl 1 rfl) ?_
          refine lv_iadd hx hb dX6_block_147 ?_
          refine lv_topi (fun z190 e_z190 => ?_)
          (first | have t_z190 := i_add e_z190 (by omega) (by omega) | skip)
          obtain ⟨hPc, hDc, hFc, hCm, hNw⟩ := C_s (wc := [eO h0 5 [.ref jb, .ref qm, .int q173, .ref qh, .ref qk, .ref qf, .int q174, .ref jp], eI qm km 60 q161]) hP hD hS hA [(0, 2)] 25 rfl (by decide +kernel) rfl
          have hKc := K_s (tys' := [(km, .int)]) hK [(0, 1)] rfl
          refine va_callv (va_runV (As := [.int z190]) (rest := []) ⟨hx, hb, hml, hown, hts⟩ (c_X6_mark l dC dI h0 z190 jb qm q173 qh qk qf q174 jp km q161 H.size (by first | assumption | omega) (by first | assumption | omega)) (cwV 1 hts gX6_block_X6_mark rfl rfl rfl (by decide +kernel) ⟨(show (0) + 1 ≤ 10 * nd + 8 by omega), (show 8 + (2 + 11) + (0) ≤ 200 * nd + 120 by omega)⟩) ⟨fun a U g mk q => by obtain ⟨q0, q1, qP, qK, qD⟩ := q; exact ⟨q0, q1, qP, va_K.moved (u := U) (U := U.calling g mk a) (Vm.Alike.refl U.vm) qK, qD⟩, va_recv (s := s) (q := (RX6, TX6, 8)) hKc hPc (ci := 5) (q0 := 0) rfl rfl, fun U hU hW => ⟨rfl, by rw [hU], by rw [hU]; exact hPc, va_K.moved hW.alike hKc, hDc.weaken (fun _ _ _ _ => trivial)⟩⟩ rfl rfl hl.1 rfl (lv_room (Nat.le_of_ble_eq_true rfl)) dX6_block_148 ⟨Nat.le_of_ble_eq_true rfl, Nat.le_of_ble_eq_true rfl⟩) hS (fun q _ h => hFc q h) hFc (fun u t H1 locs ht hvm hw hB hz1 hk1 hS => ?_)
          obtain ⟨q192, q193, x1_r191, hP1, hK1, hD1⟩ := hB
          rw [ht] at hP1
          have hK1 := va_K.moved hvm.symm hK1
          try dsimp only at hw
          obtain ⟨hP, hD⟩ := J_s (wL := [eI qh kh 8 g186, eR qk kk 9 fo, eI ro0 kr0 8 q163, eI ro1 kr1 8 q164, eI ro2 kr2 8 q165, eI ro3 kr3 8 q166, eI ro4 kr4 8 q167, eI ro5 kr5 8 q168, eI ro6 kr6 8 q169, eI ro7 kr7 8 q170, eI ro8 kr8 8 q171, eL qf kf 9 q172, eO jb 0 [.ref aq0, .ref aq1, .ref aq2, .ref aq3, .ref aq4, .ref aq5, .ref aq6, .int aacc, .long q179, .int q180, .int q181, .int q182, .int q183], eI aq0 ak0 8 ag0, eI aq1 ak1 8 q175, eI aq2 ak2 8 ag2, eI aq3 ak3 8 ag3, eI aq4 ak4 8 q176, eI aq5 ak5 8 g189, eI aq6 ak6 8 q178, eO jp 2 [.ref pb, .ref pn, .int ps], eI pb kpb 80 fpb, eI pn kpn 80 fpn, eO h0 5 [.ref jb, .ref qm, .int q193, .ref qh, .ref qk, .ref qf, .int q174, .ref jp], eI qm km 60 q192]) hP hD [(0, 2)] [(2, 23)] hCm hNw (by decide +kernel) hk1 hFc hP1 hD1 rfl
          have hK := KJ_s (tys' := [(kh, .int), (kk, .array .int), (kr0, .int), (kr1, .int), (kr2, .int), (kr3, .int), (kr4, .int), (kr5, .int), (kr6, .int), (kr7, .int), (kr8, .int), (kf, .long), (ak0, .int), (ak1, .int), (ak2, .int), (ak3, .boolean), (ak4, .int), (ak5, .int), (ak6, .int), (kpb, .int), (kpn, .int), (km, .int)]) hK hK1 [(1, 21)] rfl
          generalize H1 = H at hP hS ⊢
          refine lv_iload hx hb dX6_block_151 (lv_at hl 0 rfl) ?_
          rw [hQ9]
          exact W.iret (v := r160) hx hb hr (fun t ht hW => ⟨⟨r160, (), rfl, (by first | rfl | trivial), q192, g186, q163, q164, q165, q166, q167, q168, q169, q170, q171, q172, q193, q174, q175, q176, g189, q178, q179, q180, q181, q182, q183, (by first | assumption | omega), (by first | assumption | omega), (by first | assumption | omega), (by first | assumption | omega), by rw [ht]; exact P_s hP [(23, 2), (0, 23)] rfl, va_K.moved hW.alike (K_s hK [(21, 1), (0, 21)] rfl), D_s hD [(23, 2), (0, 23)] 25 rfl (by decide +kernel) rfl⟩, hS.F ht⟩) hS.2.2 dX6_block_153
  · subst e_r3
    refine lv_if_ne (tgt := 37) hx hb dX6_block_19 (by decide) (fun c194 => absurd (by decide) c194) (fun c194 => ?_)
    refine lv_aload_n hx hb dX6_block_22 rfl (lv_at hl 1 rfl) ?_
    refine va_get (D := (dC, dI)) (ci := 5) (v := .ref jb) (C := RX6) (T := TX6) (N := 8) hx hb hts (fun w h => List.mem_cons_of_mem _ (inlX6 w h)) hown hK hP 0 rfl rfl 0 (by decide) (hts (.fieldLink RX6 27 "ClearingGates$Runner" "books" "LClearingGates$Books;") (List.mem_cons_of_mem _ mw_185)) (fun _ h9 => h9) rfl dX6_block_23 ?_
    refine lv_dup hx hb dX6_block_26 rfl ?_
    refine va_get (D := (dC, dI)) (ci := 0) (v := .int amis) (C := RX0) (T := TX0) (N := 13) hx hb hts (fun w h => List.mem_cons_of_mem _ (inlX0 w h)) hown hK hP 23 rfl rfl 9 (by decide) (hts (.fieldLink RX6 101 "ClearingGates$Books" "missed" "I") (List.mem_cons_of_mem _ mw_117)) (fun _ h9 => h9) rfl dX6_block_27 ?_
    refine lv_iconst (v := 1) hx hb dX6_block_30 (by decide) ?_
    refine lv_iadd hx hb dX6_block_31 ?_
    refine lv_topi (fun z195 e_z195 => ?_)
    (first | have t_z195 := i_add e_z195 (by omega) (by omega) | skip)
    refine va_put (D := (dC, dI)) (ci := 0) (v := .int z195) (ty := .int) (C := RX0) (T := TX0) (N := 13) hx hb hts (fun w h => List.mem_cons_of_mem _ (inlX0 w h)) tyX0 tyX0_ok nmX0 hown hK hP hD hS 23 rfl rfl 9 (by decide) (hts (.fieldLink RX6 101 "ClearingGates$Books" "missed" "I") (List.mem_cons_of_mem _ mw_117)) (fun _ h9 => h9) rfl (by decide +kernel) rfl rfl (Nat.le_of_ble_eq_true rfl) dX6_block_32 (fun H locs hP hD hS => ?_)
    obtain ⟨hP, hD⟩ := X_s (ws' := [eO h0 5 [.ref jb, .ref qm, .int mc, .ref qh, .ref qk, .ref qf, .int bg, .ref jp], eI qm km 60 fm, eI qh kh 8 fh, eR qk kk 9 fo, eI ro0 kr0 8 fr0, eI ro1 kr1 8 fr1, eI ro2 kr2 8 fr2, eI ro3 kr3 8 fr3, eI ro4 kr4 8 fr4, eI ro5 kr5 8 fr5, eI ro6 kr6 8 fr6, eI ro7 kr7 8 fr7, eI ro8 kr8 8 fr8, eL qf kf 9 ff, eI aq0 ak0 8 ag0, eI aq1 ak1 8 ag1, eI aq2 ak2 8 ag2, eI aq4 ak4 8 ag4, eI aq5 ak5 8 ag5, eI aq6 ak6 8 ag6, eI pn kpn 80 fpn, eO jp 2 [.ref pb, .ref pn, .int ps], eI pb kpb 80 fpb, eO jb 0 [.ref aq0, .ref aq1, .ref aq2, .ref aq3, .ref aq4, .ref aq5, .ref aq6, .int aacc, .long afees, .int z195, .int abel, .int aref, .int acau], eI aq3 ak3 8 ag3]) hP hD rfl
    refine lv_iconst (v := 0) hx hb dX6_block_35 (by decide) ?_
    rw [hQ9]
    exact W.iret (v := 0) hx hb hr (fun t ht hW => ⟨⟨0, (), rfl, (by first | rfl | trivial), fm, fh, fr0, fr1, fr2, fr3, fr4, fr5, fr6, fr7, fr8, ff, mc, bg, ag1, ag4, ag5, ag6, afees, z195, abel, aref, acau, (by first | assumption | omega), (by first | assumption | omega), (by first | assumption | omega), (by first | assumption | omega), by rw [ht]; exact P_s hP [(0, 14), (23, 1), (14, 3), (24, 1), (17, 3), (21, 2), (20, 1)] rfl, va_K.moved hW.alike (K_s hK [(0, 16), (21, 1), (16, 3), (20, 1), (19, 1)] rfl), D_s hD [(0, 14), (23, 1), (14, 3), (24, 1), (17, 3), (21, 2), (20, 1)] 25 rfl (by decide +kernel) rfl⟩, hS.F ht⟩) hS.2.2 dX6_block_36

set_option maxRecDepth 100000 in
set_option maxHeartbeats 4000000 in
/-- Runner.attempt -/
theorem c_X6_attempt (l : Launch) (dC : Nat → ClassId) (dI : Nat → Nat → Nat) (h0 : Nat) (p0 : Int32) (dp : Int32) (p2 : Int32) (jb : Nat) (qm : Nat) (mc : Int32) (qh : Nat) (qk : Nat) (qf : Nat) (bg : Int32) (jp : Nat) (km : ClassId) (fm : Nat → Int32) (kh : ClassId) (fh : Nat → Int32) (kk : ClassId) (fo : Nat → Option Nat) (ro0 : Nat) (kr0 : ClassId) (fr0 : Nat → Int32) (ro1 : Nat) (kr1 : ClassId) (fr1 : Nat → Int32) (ro2 : Nat) (kr2 : ClassId) (fr2 : Nat → Int32) (ro3 : Nat) (kr3 : ClassId) (fr3 : Nat → Int32) (ro4 : Nat) (kr4 : ClassId) (fr4 : Nat → Int32) (ro5 : Nat) (kr5 : ClassId) (fr5 : Nat → Int32) (ro6 : Nat) (kr6 : ClassId) (fr6 : Nat → Int32) (ro7 : Nat) (kr7 : ClassId) (fr7 : Nat → Int32) (ro8 : Nat) (kr8 : ClassId) (fr8 : Nat → Int32) (kf : ClassId) (ff : Nat → Int64) (aq0 : Nat) (aq1 : Nat) (aq2 : Nat) (aq3 : Nat) (aq4 : Nat) (aq5 : Nat) (aq6 : Nat) (aacc : Int32) (afees : Int64) (amis : Int32) (abel : Int32) (aref : Int32) (acau : Int32) (ak0 : ClassId) (ag0 : Nat → Int32) (ak1 : ClassId) (ag1 : Nat → Int32) (ak2 : ClassId) (ag2 : Nat → Int32) (ak3 : ClassId) (ag3 : Nat → Int32) (ak4 : ClassId) (ag4 : Nat → Int32) (ak5 : ClassId) (ag5 : Nat → Int32) (ak6 : ClassId) (ag6 : Nat → Int32) (pb : Nat) (pn : Nat) (ps : Int32) (kpb : ClassId) (fpb : Nat → Int32) (kpn : ClassId) (fpn : Nat → Int32) (nd : Nat) (sz : Nat) (ra1 : 0 ≤ aacc.toInt) (ra2 : aacc.toInt ≤ 8) (hp1 : 0 ≤ ps.toInt) (hp2 : ps.toInt ≤ 80) (hb0 : ∀ k : Nat, 0 ≤ (fpn k).toInt ∧ (fpn k).toInt ≤ 80) (hf0 : fo 0 = some ro0) (hf1 : fo 1 = some ro1) (hf2 : fo 2 = some ro2) (hf3 : fo 3 = some ro3) (hf4 : fo 4 = some ro4) (hf5 : fo 5 = some ro5) (hf6 : fo 6 = some ro6) (hf7 : fo 7 = some ro7) (hf8 : fo 8 = some ro8) (rb1 : 0 ≤ bg.toInt) (rb2 : bg.toInt ≤ 500) (rb3 : 0 ≤ mc.toInt) (rb4 : mc.toInt + 2 * (500 - bg.toInt) ≤ 1099) (pl1 : 0 ≤ p0.toInt) (pl2 : p0.toInt ≤ 90) (hd0 : 0 ≤ dp.toInt) (hdn : dp.toInt + (nd : Int) = 8) (ih : ∀ m : Nat, m + 1 = nd → KI l dC dI m) : Met l yX6_attempt wsX6_attempt ({ frames := 10 * nd + 8, cells := 0, slots := 0, locals := 200 * nd + 120 }) (va_Pc [.ref h0, .int p0, .int dp, .int p2] (fun U => U.heap.size = sz ∧ va_P (dC, dI) vwCl [eO h0 5 [.ref jb, .ref qm, .int mc, .ref qh, .ref qk, .ref qf, .int bg, .ref jp], eI qm km 60 fm, eI qh kh 8 fh, eR qk kk 9 fo, eI ro0 kr0 8 fr0, eI ro1 kr1 8 fr1, eI ro2 kr2 8 fr2, eI ro3 kr3 8 fr3, eI ro4 kr4 8 fr4, eI ro5 kr5 8 fr5, eI ro6 kr6 8 fr6, eI ro7 kr7 8 fr7, eI ro8 kr8 8 fr8, eL qf kf 9 ff, eO jb 0 [.ref aq0, .ref aq1, .ref aq2, .ref aq3, .ref aq4, .ref aq5, .ref aq6, .int aacc, .long afees, .int amis, .int abel, .int aref, .int acau], eI aq0 ak0 8 ag0, eI aq1 ak1 8 ag1, eI aq2 ak2 8 ag2, eI aq3 ak3 8 ag3, eI aq4 ak4 8 ag4, eI aq5 ak5 8 ag5, eI aq6 ak6 8 ag6, eO jp 2 [.ref pb, .ref pn, .int ps], eI pb kpb 80 fpb, eI pn kpn 80 fpn] U.heap ∧ va_K (dC, dI) vwCl [(km, .int), (kh, .int), (kk, .array .int), (kr0, .int), (kr1, .int), (kr2, .int), (kr3, .int), (kr4, .int), (kr5, .int), (kr6, .int), (kr7, .int), (kr8, .int), (kf, .long), (ak0, .int), (ak1, .int), (ak2, .int), (ak3, .boolean), (ak4, .int), (ak5, .int), (ak6, .int), (kpb, .int), (kpn, .int)] U ∧ va_D (fun _ => True) [eO h0 5 [.ref jb, .ref qm, .int mc, .ref qh, .ref qk, .ref qf, .int bg, .ref jp], eI qm km 60 fm, eI qh kh 8 fh, eR qk kk 9 fo, eI ro0 kr0 8 fr0, eI ro1 kr1 8 fr1, eI ro2 kr2 8 fr2, eI ro3 kr3 8 fr3, eI ro4 kr4 8 fr4, eI ro5 kr5 8 fr5, eI ro6 kr6 8 fr6, eI ro7 kr7 8 fr7, eI ro8 kr8 8 fr8, eL qf kf 9 ff, eO jb 0 [.ref aq0, .ref aq1, .ref aq2, .ref aq3, .ref aq4, .ref aq5, .ref aq6, .int aacc, .long afees, .int amis, .int abel, .int aref, .int acau], eI aq0 ak0 8 ag0, eI aq1 ak1 8 ag1, eI aq2 ak2 8 ag2, eI aq3 ak3 8 ag3, eI aq4 ak4 8 ag4, eI aq5 ak5 8 ag5, eI aq6 ak6 8 ag6, eO jp 2 [.ref pb, .ref pn, .int ps], eI pb kpb 80 fpb, eI pn kpn 80 fpn])) (va_Qi (fun (r : Int32) (_ : Unit) => True) (fun (_ : Unit) (t : State) => ∃ (fm' : Nat → Int32), ∃ (fh' : Nat → Int32), ∃ (fr0' : Nat → Int32), ∃ (fr1' : Nat → Int32), ∃ (fr2' : Nat → Int32), ∃ (fr3' : Nat → Int32), ∃ (fr4' : Nat → Int32), ∃ (fr5' : Nat → Int32), ∃ (fr6' : Nat → Int32), ∃ (fr7' : Nat → Int32), ∃ (fr8' : Nat → Int32), ∃ (ff' : Nat → Int64), ∃ (mc' : Int32), ∃ (bg' : Int32), ∃ (ag1' : Nat → Int32), ∃ (ag4' : Nat → Int32), ∃ (ag5' : Nat → Int32), ∃ (ag6' : Nat → Int32), ∃ (afees' : Int64), ∃ (amis' : Int32), ∃ (abel' : Int32), ∃ (aref' : Int32), ∃ (acau' : Int32), (bg.toInt ≤ bg'.toInt) ∧ (bg'.toInt ≤ 500) ∧ (0 ≤ mc'.toInt) ∧ (mc'.toInt + 2 * (500 - bg'.toInt) ≤ mc.toInt + 2 * (500 - bg.toInt) + 1) ∧ va_P (dC, dI) vwCl [eO h0 5 [.ref jb, .ref qm, .int mc', .ref qh, .ref qk, .ref qf, .int bg', .ref jp], eI qm km 60 (fm'), eI qh kh 8 (fh'), eR qk kk 9 fo, eI ro0 kr0 8 (fr0'), eI ro1 kr1 8 (fr1'), eI ro2 kr2 8 (fr2'), eI ro3 kr3 8 (fr3'), eI ro4 kr4 8 (fr4'), eI ro5 kr5 8 (fr5'), eI ro6 kr6 8 (fr6'), eI ro7 kr7 8 (fr7'), eI ro8 kr8 8 (fr8'), eL qf kf 9 (ff'), eO jb 0 [.ref aq0, .ref aq1, .ref aq2, .ref aq3, .ref aq4, .ref aq5, .ref aq6, .int aacc, .long afees', .int amis', .int abel', .int aref', .int acau'], eI aq0 ak0 8 ag0, eI aq1 ak1 8 (ag1'), eI aq2 ak2 8 ag2, eI aq3 ak3 8 ag3, eI aq4 ak4 8 (ag4'), eI aq5 ak5 8 (ag5'), eI aq6 ak6 8 (ag6'), eO jp 2 [.ref pb, .ref pn, .int ps], eI pb kpb 80 fpb, eI pn kpn 80 fpn] t.heap ∧ va_K (dC, dI) vwCl [(km, .int), (kh, .int), (kk, .array .int), (kr0, .int), (kr1, .int), (kr2, .int), (kr3, .int), (kr4, .int), (kr5, .int), (kr6, .int), (kr7, .int), (kr8, .int), (kf, .long), (ak0, .int), (ak1, .int), (ak2, .int), (ak3, .boolean), (ak4, .int), (ak5, .int), (ak6, .int), (kpb, .int), (kpn, .int)] t ∧ va_D (va_A [eO h0 5 [.ref jb, .ref qm, .int mc, .ref qh, .ref qk, .ref qf, .int bg, .ref jp], eI qm km 60 fm, eI qh kh 8 fh, eR qk kk 9 fo, eI ro0 kr0 8 fr0, eI ro1 kr1 8 fr1, eI ro2 kr2 8 fr2, eI ro3 kr3 8 fr3, eI ro4 kr4 8 fr4, eI ro5 kr5 8 fr5, eI ro6 kr6 8 fr6, eI ro7 kr7 8 fr7, eI ro8 kr8 8 fr8, eL qf kf 9 ff, eO jb 0 [.ref aq0, .ref aq1, .ref aq2, .ref aq3, .ref aq4, .ref aq5, .ref aq6, .int aacc, .long afees, .int amis, .int abel, .int aref, .int acau], eI aq0 ak0 8 ag0, eI aq1 ak1 8 ag1, eI aq2 ak2 8 ag2, eI aq3 ak3 8 ag3, eI aq4 ak4 8 ag4, eI aq5 ak5 8 ag5, eI aq6 ak6 8 ag6, eO jp 2 [.ref pb, .ref pn, .int ps], eI pb kpb 80 fpb, eI pn kpn 80 fpn] sz) [eO h0 5 [.ref jb, .ref qm, .int mc', .ref qh, .ref qk, .ref qf, .int bg', .ref jp], eI qm km 60 (fm'), eI qh kh 8 (fh'), eR qk kk 9 fo, eI ro0 kr0 8 (fr0'), eI ro1 kr1 8 (fr1'), eI ro2 kr2 8 (fr2'), eI ro3 kr3 8 (fr3'), eI ro4 kr4 8 (fr4'), eI ro5 kr5 8 (fr5'), eI ro6 kr6 8 (fr6'), eI ro7 kr7 8 (fr7'), eI ro8 kr8 8 (fr8'), eL qf kf 9 (ff'), eO jb 0 [.ref aq0, .ref aq1, .ref aq2, .ref aq3, .ref aq4, .ref aq5, .ref aq6, .int aacc, .long afees', .int amis', .int abel', .int aref', .int acau'], eI aq0 ak0 8 ag0, eI aq1 ak1 8 (ag1'), eI aq2 ak2 8 ag2, eI aq3 ak3 8 ag3, eI aq4 ak4 8 (ag4'), eI aq5 ak5 8 (ag5'), eI aq6 ak6 8 (ag6'), eO jp 2 [.ref pb, .ref pn, .int ps], eI pb kpb 80 fpb, eI pn kpn 80 fpn]) (va_A [eO h0 5 [.ref jb, .ref qm, .int mc, .ref qh, .ref qk, .ref qf, .int bg, .ref jp], eI qm km 60 fm, eI qh kh 8 fh, eR qk kk 9 fo, eI ro0 kr0 8 fr0, eI ro1 kr1 8 fr1, eI ro2 kr2 8 fr2, eI ro3 kr3 8 fr3, eI ro4 kr4 8 fr4, eI ro5 kr5 8 fr5, eI ro6 kr6 8 fr6, eI ro7 kr7 8 fr7, eI ro8 kr8 8 fr8, eL qf kf 9 ff, eO jb 0 [.ref aq0, .ref aq1, .ref aq2, .ref aq3, .ref aq4, .ref aq5, .ref aq6, .int aacc, .long afees, .int amis, .int abel, .int aref, .int acau], eI aq0 ak0 8 ag0, eI aq1 ak1 8 ag1, eI aq2 ak2 8 ag2, eI aq3 ak3 8 ag3, eI aq4 ak4 8 ag4, eI aq5 ak5 8 ag5, eI aq6 ak6 8 ag6, eO jp 2 [.ref pb, .ref pn, .int ps], eI pb kpb 80 fpb, eI pn kpn 80 fpn] sz)) 0 0 (va_A [eO h0 5 [.ref jb, .ref qm, .int mc, .ref qh, .ref qk, .ref qf, .int bg, .ref jp], eI qm km 60 fm, eI qh kh 8 fh, eR qk kk 9 fo, eI ro0 kr0 8 fr0, eI ro1 kr1 8 fr1, eI ro2 kr2 8 fr2, eI ro3 kr3 8 fr3, eI ro4 kr4 8 fr4, eI ro5 kr5 8 fr5, eI ro6 kr6 8 fr6, eI ro7 kr7 8 fr7, eI ro8 kr8 8 fr8, eL qf kf 9 ff, eO jb 0 [.ref aq0, .ref aq1, .ref aq2, .ref aq3, .ref aq4, .ref aq5, .ref aq6, .int aacc, .long afees, .int amis, .int abel, .int aref, .int acau], eI aq0 ak0 8 ag0, eI aq1 ak1 8 ag1, eI aq2 ak2 8 ag2, eI aq3 ak3 8 ag3, eI aq4 ak4 8 ag4, eI aq5 ak5 8 ag5, eI aq6 ak6 8 ag6, eO jp 2 [.ref pb, .ref pn, .int ps], eI pb kpb 80 fpb, eI pn kpn 80 fpn] sz) := by
  refine Met.ofW (cc := cX6_attempt) (maxL := 5) (ret := (some .int)) (by decide) rfl ?_
  intro p e s m args below meth c s₁ B hml hv
  obtain ⟨rfl, hsz, hP, hK, hD0⟩ := hv
  have hx := B.exec
  have hb := B.bytes
  have hr := B.returns
  have hts := atoms_spec (ws := wsX6_attempt) B.pre
  have hown : s.vm.findClass RX6 = some m.cls := findClass_of_methodNamed B.named
  have hlocks := B.notSynchronized
  subst hsz
  have hD := hD0.self (sz := s.heap.size)
  generalize hAe : va_A [eO h0 5 [.ref jb, .ref qm, .int mc, .ref qh, .ref qk, .ref qf, .int bg, .ref jp], eI qm km 60 fm, eI qh kh 8 fh, eR qk kk 9 fo, eI ro0 kr0 8 fr0, eI ro1 kr1 8 fr1, eI ro2 kr2 8 fr2, eI ro3 kr3 8 fr3, eI ro4 kr4 8 fr4, eI ro5 kr5 8 fr5, eI ro6 kr6 8 fr6, eI ro7 kr7 8 fr7, eI ro8 kr8 8 fr8, eL qf kf 9 ff, eO jb 0 [.ref aq0, .ref aq1, .ref aq2, .ref aq3, .ref aq4, .ref aq5, .ref aq6, .int aacc, .long afees, .int amis, .int abel, .int aref, .int acau], eI aq0 ak0 8 ag0, eI aq1 ak1 8 ag1, eI aq2 ak2 8 ag2, eI aq3 ak3 8 ag3, eI aq4 ak4 8 ag4, eI aq5 ak5 8 ag5, eI aq6 ak6 8 ag6, eO jp 2 [.ref pb, .ref pn, .int ps], eI pb kpb 80 fpb, eI pn kpn 80 fpn] s.heap.size = A at hD ⊢
  have hA : ∀ q : Nat, s.heap.size ≤ q → A q := fun q h => by rw [← hAe]; exact Or.inr h
  have hS : va_S A s.heap s.heap [] := va_S.rf
  have hP : va_P (dC, dI) vwCl [eO h0 5 [.ref jb, .ref qm, .int mc, .ref qh, .ref qk, .ref qf, .int bg, .ref jp], eI qm km 60 fm, eI qh kh 8 fh, eR qk kk 9 fo, eI ro0 kr0 8 fr0, eI ro1 kr1 8 fr1, eI ro2 kr2 8 fr2, eI ro3 kr3 8 fr3, eI ro4 kr4 8 fr4, eI ro5 kr5 8 fr5, eI ro6 kr6 8 fr6, eI ro7 kr7 8 fr7, eI ro8 kr8 8 fr8, eL qf kf 9 ff, eO jb 0 [.ref aq0, .ref aq1, .ref aq2, .ref aq3, .ref aq4, .ref aq5, .ref aq6, .int aacc, .long afees, .int amis, .int abel, .int aref, .int acau], eI aq0 ak0 8 ag0, eI aq1 ak1 8 ag1, eI aq2 ak2 8 ag2, eI aq3 ak3 8 ag3, eI aq4 ak4 8 ag4, eI aq5 ak5 8 ag5, eI aq6 ak6 8 ag6, eO jp 2 [.ref pb, .ref pn, .int ps], eI pb kpb 80 fpb, eI pn kpn 80 fpn] s.heap := hP
  have hl := lv_entry ([.ref h0, .int p0, .int dp, .int p2]) (n := 5) (Nat.le_of_ble_eq_true rfl)
  rw [lg_entry_eq]
  generalize (lg_sl ([.ref h0, .int p0, .int dp, .int p2]) ++ List.replicate (5 - (lg_sl ([.ref h0, .int p0, .int dp, .int p2])).length) Slot.unset).toArray = ls at hl ⊢
  have hl : lv_has ls 5 [(0, .ref h0), (1, .int p0), (2, .int dp), (3, .int p2)] := hl
  suffices key9 : ∀ Q9 : State → Prop, Q9 = (MQ below (va_Qi (fun (r : Int32) (_ : Unit) => True) (fun (_ : Unit) (t : State) => ∃ (fm' : Nat → Int32), ∃ (fh' : Nat → Int32), ∃ (fr0' : Nat → Int32), ∃ (fr1' : Nat → Int32), ∃ (fr2' : Nat → Int32), ∃ (fr3' : Nat → Int32), ∃ (fr4' : Nat → Int32), ∃ (fr5' : Nat → Int32), ∃ (fr6' : Nat → Int32), ∃ (fr7' : Nat → Int32), ∃ (fr8' : Nat → Int32), ∃ (ff' : Nat → Int64), ∃ (mc' : Int32), ∃ (bg' : Int32), ∃ (ag1' : Nat → Int32), ∃ (ag4' : Nat → Int32), ∃ (ag5' : Nat → Int32), ∃ (ag6' : Nat → Int32), ∃ (afees' : Int64), ∃ (amis' : Int32), ∃ (abel' : Int32), ∃ (aref' : Int32), ∃ (acau' : Int32), (bg.toInt ≤ bg'.toInt) ∧ (bg'.toInt ≤ 500) ∧ (0 ≤ mc'.toInt) ∧ (mc'.toInt + 2 * (500 - bg'.toInt) ≤ mc.toInt + 2 * (500 - bg.toInt) + 1) ∧ va_P (dC, dI) vwCl [eO h0 5 [.ref jb, .ref qm, .int mc', .ref qh, .ref qk, .ref qf, .int bg', .ref jp], eI qm km 60 (fm'), eI qh kh 8 (fh'), eR qk kk 9 fo, eI ro0 kr0 8 (fr0'), eI ro1 kr1 8 (fr1'), eI ro2 kr2 8 (fr2'), eI ro3 kr3 8 (fr3'), eI ro4 kr4 8 (fr4'), eI ro5 kr5 8 (fr5'), eI ro6 kr6 8 (fr6'), eI ro7 kr7 8 (fr7'), eI ro8 kr8 8 (fr8'), eL qf kf 9 (ff'), eO jb 0 [.ref aq0, .ref aq1, .ref aq2, .ref aq3, .ref aq4, .ref aq5, .ref aq6, .int aacc, .long afees', .int amis', .int abel', .int aref', .int acau'], eI aq0 ak0 8 ag0, eI aq1 ak1 8 (ag1'), eI aq2 ak2 8 ag2, eI aq3 ak3 8 ag3, eI aq4 ak4 8 (ag4'), eI aq5 ak5 8 (ag5'), eI aq6 ak6 8 (ag6'), eO jp 2 [.ref pb, .ref pn, .int ps], eI pb kpb 80 fpb, eI pn kpn 80 fpn] t.heap ∧ va_K (dC, dI) vwCl [(km, .int), (kh, .int), (kk, .array .int), (kr0, .int), (kr1, .int), (kr2, .int), (kr3, .int), (kr4, .int), (kr5, .int), (kr6, .int), (kr7, .int), (kr8, .int), (kf, .long), (ak0, .int), (ak1, .int), (ak2, .int), (ak3, .boolean), (ak4, .int), (ak5, .int), (ak6, .int), (kpb, .int), (kpn, .int)] t ∧ va_D A [eO h0 5 [.ref jb, .ref qm, .int mc', .ref qh, .ref qk, .ref qf, .int bg', .ref jp], eI qm km 60 (fm'), eI qh kh 8 (fh'), eR qk kk 9 fo, eI ro0 kr0 8 (fr0'), eI ro1 kr1 8 (fr1'), eI ro2 kr2 8 (fr2'), eI ro3 kr3 8 (fr3'), eI ro4 kr4 8 (fr4'), eI ro5 kr5 8 (fr5'), eI ro6 kr6 8 (fr6'), eI ro7 kr7 8 (fr7'), eI ro8 kr8 8 (fr8'), eL qf kf 9 (ff'), eO jb 0 [.ref aq0, .ref aq1, .ref aq2, .ref aq3, .ref aq4, .ref aq5, .ref aq6, .int aacc, .long afees', .int amis', .int abel', .int aref', .int acau'], eI aq0 ak0 8 ag0, eI aq1 ak1 8 (ag1'), eI aq2 ak2 8 ag2, eI aq3 ak3 8 ag3, eI aq4 ak4 8 (ag4'), eI aq5 ak5 8 (ag5'), eI aq6 ak6 8 (ag6'), eO jp 2 [.ref pb, .ref pn, .int ps], eI pb kpb 80 fpb, eI pn kpn 80 fpn]) A) (([.ref h0, .int p0, .int dp, .int p2] : List Value).toArray) s 0 0 A) → W p l e ({ frames := 10 * nd + 8, cells := 0, slots := 0, locals := 200 * nd + 120 }) s m (([.ref h0, .int p0, .int dp, .int p2] : List Value).toArray) below meth c s.heap [] 0 0 Q9 (F0 m 0 ls []) from key9 _ rfl
  intro Q9 hQ9
  have k_0 : (0 : Int32).toInt = 0 := by decide
  have k_1 : (1 : Int32).toInt = 1 := by decide
  have k_50 : (50 : Int32).toInt = 50 := by decide
  refine lv_aload_n hx hb dX6_attempt_0 rfl (lv_at hl 0 rfl) ?_
  refine lv_iload_n hx hb dX6_attempt_1 rfl (lv_at hl 2 rfl) ?_
  refine lv_iconst (v := 1) hx hb dX6_attempt_2 (by decide) ?_
  refine lv_iadd hx hb dX6_attempt_3 ?_
  refine lv_topi (fun z1 e_z1 => ?_)
  (first | have t_z1 := i_add e_z1 (by omega) (by omega) | skip)
  obtain ⟨hPc, hDc, hFc, hCm, hNw⟩ := C_s (wc := [eO h0 5 [.ref jb, .ref qm, .int mc, .ref qh, .ref qk, .ref qf, .int bg, .ref jp], eR qk kk 9 fo, eI ro0 kr0 8 fr0, eI ro1 kr1 8 fr1, eI ro2 kr2 8 fr2, eI ro3 kr3 8 fr3, eI ro4 kr4 8 fr4, eI ro5 kr5 8 fr5, eI ro6 kr6 8 fr6, eI ro7 kr7 8 fr7, eI ro8 kr8 8 fr8, eL qf kf 9 ff, eO jb 0 [.ref aq0, .ref aq1, .ref aq2, .ref aq3, .ref aq4, .ref aq5, .ref aq6, .int aacc, .long afees, .int amis, .int abel, .int aref, .int acau], eI aq1 ak1 8 ag1]) hP hD hS hA [(0, 1), (3, 12), (16, 1)] 25 rfl (by decide +kernel) rfl
  have hKc := K_s (tys' := [(kk, .array .int), (kr0, .int), (kr1, .int), (kr2, .int), (kr3, .int), (kr4, .int), (kr5, .int), (kr6, .int), (kr7, .int), (kr8, .int), (kf, .long), (ak1, .int)]) hK [(2, 11), (14, 1)] rfl
  refine va_callv (va_runV (As := [.int z1]) (rest := []) ⟨hx, hb, hml, hown, hts⟩ (c_X6_keep l dC dI h0 z1 jb qm mc qh qk qf bg jp kk fo ro0 kr0 fr0 ro1 kr1 fr1 ro2 kr2 fr2 ro3 kr3 fr3 ro4 kr4 fr4 ro5 kr5 fr5 ro6 kr6 fr6 ro7 kr7 fr7 ro8 kr8 fr8 kf ff (.ref aq0) aq1 (.ref aq2) (.ref aq3) (.ref aq4) (.ref aq5) (.ref aq6) (.int aacc) afees (.int amis) (.int abel) (.int aref) (.int acau) ak1 ag1 s.heap.size (by first | assumption | omega) (by first | assumption | omega) hf0 hf1 hf2 hf3 hf4 hf5 hf6 hf7 hf8) (cwV 1 hts gX6_attempt_X6_keep rfl rfl rfl (by decide +kernel) ⟨(show (1) + 1 ≤ 10 * nd + 8 by omega), (show 8 + (2 + 11) + (60) ≤ 200 * nd + 120 by omega)⟩) ⟨fun a U g mk q => by obtain ⟨q0, q1, qP, qK, qD⟩ := q; exact ⟨q0, q1, qP, va_K.moved (u := U) (U := U.calling g mk a) (Vm.Alike.refl U.vm) qK, qD⟩, va_recv (s := s) (q := (RX6, TX6, 8)) hKc hPc (ci := 5) (q0 := 0) rfl rfl, fun U hU hW => ⟨rfl, by rw [hU], by rw [hU]; exact hPc, va_K.moved hW.alike hKc, hDc.weaken (fun _ _ _ _ => trivial)⟩⟩ rfl rfl hl.1 rfl (lv_room (Nat.le_of_ble_eq_true rfl)) dX6_attempt_4 ⟨Nat.le_of_ble_eq_true rfl, Nat.le_of_ble_eq_true rfl⟩) hS (fun q _ h => hFc q h) hFc (fun u t H1 locs ht hvm hw hB hz1 hk1 hS => ?_)
  obtain ⟨q3, q4, q5, q6, q7, q8, q9, q10, q11, q12, hP1, hK1, hD1⟩ := hB
  rw [ht] at hP1
  have hK1 := va_K.moved hvm.symm hK1
  try dsimp only at hw
  obtain ⟨hP, hD⟩ := J_s (wL := [eI qm km 60 fm, eI qh kh 8 fh, eI aq0 ak0 8 ag0, eI aq2 ak2 8 ag2, eI aq3 ak3 8 ag3, eI aq4 ak4 8 ag4, eI aq5 ak5 8 ag5, eI aq6 ak6 8 ag6, eO jp 2 [.ref pb, .ref pn, .int ps], eI pb kpb 80 fpb, eI pn kpn 80 fpn, eO h0 5 [.ref jb, .ref qm, .int mc, .ref qh, .ref qk, .ref qf, .int bg, .ref jp], eR qk kk 9 fo, eI ro0 kr0 8 q3, eI ro1 kr1 8 q4, eI ro2 kr2 8 q5, eI ro3 kr3 8 q6, eI ro4 kr4 8 q7, eI ro5 kr5 8 q8, eI ro6 kr6 8 q9, eI ro7 kr7 8 q10, eI ro8 kr8 8 q11, eL qf kf 9 q12, eO jb 0 [.ref aq0, .ref aq1, .ref aq2, .ref aq3, .ref aq4, .ref aq5, .ref aq6, .int aacc, .long afees, .int amis, .int abel, .int aref, .int acau], eI aq1 ak1 8 ag1]) hP hD [(0, 1), (3, 12), (16, 1)] [(1, 2), (15, 1), (17, 8)] hCm hNw (by decide +kernel) hk1 hFc hP1 hD1 rfl
  have hK := KJ_s (tys' := [(km, .int), (kh, .int), (ak0, .int), (ak2, .int), (ak3, .boolean), (ak4, .int), (ak5, .int), (ak6, .int), (kpb, .int), (kpn, .int), (kk, .array .int), (kr0, .int), (kr1, .int), (kr2, .int), (kr3, .int), (kr4, .int), (kr5, .int), (kr6, .int), (kr7, .int), (kr8, .int), (kf, .long), (ak1, .int)]) hK hK1 [(0, 2), (13, 1), (15, 7)] rfl
  generalize H1 = H at hP hS ⊢
  refine lv_aload_n hx hb dX6_attempt_7 rfl (lv_at hl 0 rfl) ?_
  refine lv_iload_n hx hb dX6_attempt_8 rfl (lv_at hl 1 rfl) ?_
  refine lv_iload_n hx hb dX6_attempt_9 rfl (lv_at hl 1 rfl) ?_
  refine lv_iconst (v := 1) hx hb dX6_attempt_10 (by decide) ?_
  refine lv_iadd hx hb dX6_attempt_11 ?_
  refine lv_topi (fun z13 e_z13 => ?_)
  (first | have t_z13 := i_add e_z13 (by omega) (by omega) | skip)
  refine lv_iload_n hx hb dX6_attempt_12 rfl (lv_at hl 2 rfl) ?_
  obtain ⟨hPc, hDc, hFc, hCm, hNw⟩ := C_s (wc := [eO h0 5 [.ref jb, .ref qm, .int mc, .ref qh, .ref qk, .ref qf, .int bg, .ref jp], eI qm km 60 fm, eI qh kh 8 fh, eR qk kk 9 fo, eI ro0 kr0 8 q3, eI ro1 kr1 8 q4, eI ro2 kr2 8 q5, eI ro3 kr3 8 q6, eI ro4 kr4 8 q7, eI ro5 kr5 8 q8, eI ro6 kr6 8 q9, eI ro7 kr7 8 q10, eI ro8 kr8 8 q11, eL qf kf 9 q12, eO jb 0 [.ref aq0, .ref aq1, .ref aq2, .ref aq3, .ref aq4, .ref aq5, .ref aq6, .int aacc, .long afees, .int amis, .int abel, .int aref, .int acau], eI aq0 ak0 8 ag0, eI aq1 ak1 8 ag1, eI aq2 ak2 8 ag2, eI aq3 ak3 8 ag3, eI aq4 ak4 8 ag4, eI aq5 ak5 8 ag5, eI aq6 ak6 8 ag6, eO jp 2 [.ref pb, .ref pn, .int ps], eI pb kpb 80 fpb, eI pn kpn 80 fpn]) hP hD hS hA [(11, 1), (0, 2), (12, 12), (2, 1), (24, 1), (3, 8)] 25 rfl (by decide +kernel) rfl
  have hKc := K_s (tys' := [(km, .int), (kh, .int), (kk, .array .int), (kr0, .int), (kr1, .int), (kr2, .int), (kr3, .int), (kr4, .int), (kr5, .int), (kr6, .int), (kr7, .int), (kr8, .int), (kf, .long), (ak0, .int), (ak1, .int), (ak2, .int), (ak3, .boolean), (ak4, .int), (ak5, .int), (ak6, .int), (kpb, .int), (kpn, .int)]) hK [(0, 2), (10, 11), (2, 1), (21, 1), (3, 7)] rfl
  refine va_calli (va_runV (As := [.int p0, .int z13, .int dp]) (rest := []) ⟨hx, hb, hml, hown, hts⟩ (c_X6_inside l dC dI h0 p0 z13 dp jb qm mc qh qk qf bg jp km fm kh fh kk fo ro0 kr0 q3 ro1 kr1 q4 ro2 kr2 q5 ro3 kr3 q6 ro4 kr4 q7 ro5 kr5 q8 ro6 kr6 q9 ro7 kr7 q10 ro8 kr8 q11 kf q12 aq0 aq1 aq2 aq3 aq4 aq5 aq6 aacc afees amis abel aref acau ak0 ag0 ak1 ag1 ak2 ag2 ak3 ag3 ak4 ag4 ak5 ag5 ak6 ag6 pb pn ps kpb fpb kpn fpn nd H.size ra1 ra2 hp1 hp2 hb0 hf0 hf1 hf2 hf3 hf4 hf5 hf6 hf7 hf8 rb1 rb2 rb3 (by first | assumption | omega) pl1 pl2 (by first | assumption | omega) (by first | assumption | omega) hd0 hdn ih) (cwV 3 hts gX6_attempt_X6_inside rfl rfl rfl (by decide +kernel) ⟨(show (10 * nd + 7) + 1 ≤ 10 * nd + 8 by omega), (show 8 + (4 + 11) + (200 * nd + 80) ≤ 200 * nd + 120 by omega)⟩) ⟨fun a U g mk q => by obtain ⟨q0, q1, qP, qK, qD⟩ := q; exact ⟨q0, q1, qP, va_K.moved (u := U) (U := U.calling g mk a) (Vm.Alike.refl U.vm) qK, qD⟩, va_recv (s := s) (q := (RX6, TX6, 8)) hKc hPc (ci := 5) (q0 := 0) rfl rfl, fun U hU hW => ⟨rfl, by rw [hU], by rw [hU]; exact hPc, va_K.moved hW.alike hKc, hDc.weaken (fun _ _ _ _ => trivial)⟩⟩ rfl rfl hl.1 rfl (lv_room (Nat.le_of_ble_eq_true rfl)) dX6_attempt_13 ⟨Nat.le_of_ble_eq_true rfl, Nat.le_of_ble_eq_true rfl⟩) hS (fun q _ h => hFc q h) hFc (fun r14 u t H1 locs ht hvm hw hB hz1 hk1 hS => ?_)
  refine Exists.elim hB ?_; clear hB; intro q15 hB
  refine Exists.elim hB ?_; clear hB; intro q16 hB
  refine Exists.elim hB ?_; clear hB; intro q17 hB
  refine Exists.elim hB ?_; clear hB; intro q18 hB
  refine Exists.elim hB ?_; clear hB; intro q19 hB
  refine Exists.elim hB ?_; clear hB; intro q20 hB
  refine Exists.elim hB ?_; clear hB; intro q21 hB
  refine Exists.elim hB ?_; clear hB; intro q22 hB
  refine Exists.elim hB ?_; clear hB; intro q23 hB
  refine Exists.elim hB ?_; clear hB; intro q24 hB
  refine Exists.elim hB ?_; clear hB; intro q25 hB
  refine Exists.elim hB ?_; clear hB; intro q26 hB
  refine Exists.elim hB ?_; clear hB; intro q27 hB
  refine Exists.elim hB ?_; clear hB; intro q28 hB
  refine Exists.elim hB ?_; clear hB; intro q29 hB
  refine Exists.elim hB ?_; clear hB; intro q30 hB
  refine Exists.elim hB ?_; clear hB; intro q31 hB
  refine Exists.elim hB ?_; clear hB; intro q32 hB
  refine Exists.elim hB ?_; clear hB; intro q33 hB
  refine Exists.elim hB ?_; clear hB; intro q34 hB
  refine Exists.elim hB ?_; clear hB; intro q35 hB
  refine Exists.elim hB ?_; clear hB; intro q36 hB
  refine Exists.elim hB ?_; clear hB; intro q37 hB
  have x1_r14 := hB.1
  replace hB := hB.2
  have x2_r14 := hB.1
  replace hB := hB.2
  have x3_r14 := hB.1
  replace hB := hB.2
  have x4_r14 := hB.1
  replace hB := hB.2
  obtain ⟨hP1, hK1, hD1⟩ := hB
  rw [ht] at hP1
  have hK1 := va_K.moved hvm.symm hK1
  try dsimp only at hw
  obtain ⟨hP, hD⟩ := J_s (wL := [eO h0 5 [.ref jb, .ref qm, .int q27, .ref qh, .ref qk, .ref qf, .int q28, .ref jp], eI qm km 60 q15, eI qh kh 8 q16, eR qk kk 9 fo, eI ro0 kr0 8 q17, eI ro1 kr1 8 q18, eI ro2 kr2 8 q19, eI ro3 kr3 8 q20, eI ro4 kr4 8 q21, eI ro5 kr5 8 q22, eI ro6 kr6 8 q23, eI ro7 kr7 8 q24, eI ro8 kr8 8 q25, eL qf kf 9 q26, eO jb 0 [.ref aq0, .ref aq1, .ref aq2, .ref aq3, .ref aq4, .ref aq5, .ref aq6, .int aacc, .long q33, .int q34, .int q35, .int q36, .int q37], eI aq0 ak0 8 ag0, eI aq1 ak1 8 q29, eI aq2 ak2 8 ag2, eI aq3 ak3 8 ag3, eI aq4 ak4 8 q30, eI aq5 ak5 8 q31, eI aq6 ak6 8 q32, eO jp 2 [.ref pb, .ref pn, .int ps], eI pb kpb 80 fpb, eI pn kpn 80 fpn]) hP hD [(11, 1), (0, 2), (12, 12), (2, 1), (24, 1), (3, 8)] [] hCm hNw (by decide +kernel) hk1 hFc hP1 hD1 rfl
  have hK := KJ_s (tys' := [(km, .int), (kh, .int), (kk, .array .int), (kr0, .int), (kr1, .int), (kr2, .int), (kr3, .int), (kr4, .int), (kr5, .int), (kr6, .int), (kr7, .int), (kr8, .int), (kf, .long), (ak0, .int), (ak1, .int), (ak2, .int), (ak3, .boolean), (ak4, .int), (ak5, .int), (ak6, .int), (kpb, .int), (kpn, .int)]) hK hK1 [] rfl
  generalize H1 = H at hP hS ⊢
  refine lv_istore (lv' := [(4, .int r14), (0, .ref h0), (1, .int p0), (2, .int dp), (3, .int p2)]) hx hb dX6_attempt_16 hl (by decide) rfl (fun ls hl => ?_)
  refine lv_iload hx hb dX6_attempt_18 (lv_at hl 0 rfl) ?_
  refine lv_iconst (v := 1) hx hb dX6_attempt_20 (by decide) ?_
  refine lv_icmp_lt (tgt := 30) hx hb dX6_attempt_21 (by decide) (fun c38 => ?_) (fun c38 => ?_)
  · skip
    have f_c38 := i_lt c38
    refine lv_iload hx hb dX6_attempt_30 (lv_at hl 0 rfl) ?_
    rw [hQ9]
    exact W.iret (v := r14) hx hb hr (fun t ht hW => ⟨⟨r14, (), rfl, (by first | rfl | trivial), q15, q16, q17, q18, q19, q20, q21, q22, q23, q24, q25, q26, q27, q28, q29, q30, q31, q32, q33, q34, q35, q36, q37, (by first | assumption | omega), (by first | assumption | omega), (by first | assumption | omega), (by first | assumption | omega), by rw [ht]; exact hP, va_K.moved hW.alike hK, hD⟩, hS.F ht⟩) hS.2.2 dX6_attempt_32
  · skip
    have f_c38 := i_nlt c38
    refine lv_iload hx hb dX6_attempt_24 (lv_at hl 0 rfl) ?_
    refine lv_iload_n hx hb dX6_attempt_26 rfl (lv_at hl 4 rfl) ?_
    refine lv_icmp_le (tgt := 33) hx hb dX6_attempt_27 (by decide) (fun c39 => ?_) (fun c39 => ?_)
    · skip
      have f_c39 := i_le c39
      refine lv_aload_n hx hb dX6_attempt_33 rfl (lv_at hl 1 rfl) ?_
      refine lv_iload_n hx hb dX6_attempt_34 rfl (lv_at hl 3 rfl) ?_
      refine lv_iconst (v := 1) hx hb dX6_attempt_35 (by decide) ?_
      refine lv_iadd hx hb dX6_attempt_36 ?_
      refine lv_topi (fun z40 e_z40 => ?_)
      (first | have t_z40 := i_add e_z40 (by omega) (by omega) | skip)
      obtain ⟨hPc, hDc, hFc, hCm, hNw⟩ := C_s (wc := [eO h0 5 [.ref jb, .ref qm, .int q27, .ref qh, .ref qk, .ref qf, .int q28, .ref jp], eR qk kk 9 fo, eI ro0 kr0 8 q17, eI ro1 kr1 8 q18, eI ro2 kr2 8 q19, eI ro3 kr3 8 q20, eI ro4 kr4 8 q21, eI ro5 kr5 8 q22, eI ro6 kr6 8 q23, eI ro7 kr7 8 q24, eI ro8 kr8 8 q25, eL qf kf 9 q26, eO jb 0 [.ref aq0, .ref aq1, .ref aq2, .ref aq3, .ref aq4, .ref aq5, .ref aq6, .int aacc, .long q33, .int q34, .int q35, .int q36, .int q37], eI aq1 ak1 8 q29]) hP hD hS hA [(0, 1), (3, 12), (16, 1)] 25 rfl (by decide +kernel) rfl
      have hKc := K_s (tys' := [(kk, .array .int), (kr0, .int), (kr1, .int), (kr2, .int), (kr3, .int), (kr4, .int), (kr5, .int), (kr6, .int), (kr7, .int), (kr8, .int), (kf, .long), (ak1, .int)]) hK [(2, 11), (14, 1)] rfl
      refine va_callv (va_runV (As := [.int z40]) (rest := []) ⟨hx, hb, hml, hown, hts⟩ (c_X6_undo l dC dI h0 z40 jb qm q27 qh qk qf q28 jp kk fo ro0 kr0 q17 ro1 kr1 q18 ro2 kr2 q19 ro3 kr3 q20 ro4 kr4 q21 ro5 kr5 q22 ro6 kr6 q23 ro7 kr7 q24 ro8 kr8 q25 kf q26 (.ref aq0) aq1 (.ref aq2) (.ref aq3) (.ref aq4) (.ref aq5) (.ref aq6) (.int aacc) q33 (.int q34) (.int q35) (.int q36) (.int q37) ak1 q29 H.size (by first | assumption | omega) (by first | assumption | omega) hf0 hf1 hf2 hf3 hf4 hf5 hf6 hf7 hf8) (cwV 1 hts gX6_attempt_X6_undo rfl rfl rfl (by decide +kernel) ⟨(show (1) + 1 ≤ 10 * nd + 8 by omega), (show 8 + (2 + 11) + (60) ≤ 200 * nd + 120 by omega)⟩) ⟨fun a U g mk q => by obtain ⟨q0, q1, qP, qK, qD⟩ := q; exact ⟨q0, q1, qP, va_K.moved (u := U) (U := U.calling g mk a) (Vm.Alike.refl U.vm) qK, qD⟩, va_recv (s := s) (q := (RX6, TX6, 8)) hKc hPc (ci := 5) (q0 := 0) rfl rfl, fun U hU hW => ⟨rfl, by rw [hU], by rw [hU]; exact hPc, va_K.moved hW.alike hKc, hDc.weaken (fun _ _ _ _ => trivial)⟩⟩ rfl rfl hl.1 rfl (lv_room (Nat.le_of_ble_eq_true rfl)) dX6_attempt_37 ⟨Nat.le_of_ble_eq_true rfl, Nat.le_of_ble_eq_true rfl⟩) hS (fun q _ h => hFc q h) hFc (fun u t H1 locs ht hvm hw hB hz1 hk1 hS => ?_)
      obtain ⟨q42, q43, hP1, hK1, hD1⟩ := hB
      rw [ht] at hP1
      have hK1 := va_K.moved hvm.symm hK1
      try dsimp only at hw
      obtain ⟨hP, hD⟩ := J_s (wL := [eI qm km 60 q15, eI qh kh 8 q16, eI aq0 ak0 8 ag0, eI aq2 ak2 8 ag2, eI aq3 ak3 8 ag3, eI aq4 ak4 8 q30, eI aq5 ak5 8 q31, eI aq6 ak6 8 q32, eO jp 2 [.ref pb, .ref pn, .int ps], eI pb kpb 80 fpb, eI pn kpn 80 fpn, eO h0 5 [.ref jb, .ref qm, .int q27, .ref qh, .ref qk, .ref qf, .int q28, .ref jp], eR qk kk 9 fo, eI ro0 kr0 8 q17, eI ro1 kr1 8 q18, eI ro2 kr2 8 q19, eI ro3 kr3 8 q20, eI ro4 kr4 8 q21, eI ro5 kr5 8 q22, eI ro6 kr6 8 q23, eI ro7 kr7 8 q24, eI ro8 kr8 8 q25, eL qf kf 9 q26, eO jb 0 [.ref aq0, .ref aq1, .ref aq2, .ref aq3, .ref aq4, .ref aq5, .ref aq6, .int aacc, .long q43, .int q34, .int q35, .int q36, .int q37], eI aq1 ak1 8 q42]) hP hD [(0, 1), (3, 12), (16, 1)] [(1, 2), (15, 1), (17, 8)] hCm hNw (by decide +kernel) hk1 hFc hP1 hD1 rfl
      have hK := KJ_s (tys' := [(km, .int), (kh, .int), (ak0, .int), (ak2, .int), (ak3, .boolean), (ak4, .int), (ak5, .int), (ak6, .int), (kpb, .int), (kpn, .int), (kk, .array .int), (kr0, .int), (kr1, .int), (kr2, .int), (kr3, .int), (kr4, .int), (kr5, .int), (kr6, .int), (kr7, .int), (kr8, .int), (kf, .long), (ak1, .int)]) hK hK1 [(0, 2), (13, 1), (15, 7)] rfl
      generalize H1 = H at hP hS ⊢
      refine lv_aload_n hx hb dX6_attempt_40 rfl (lv_at hl 1 rfl) ?_
      refine va_get (D := (dC, dI)) (ci := 5) (v := .ref jb) (C := RX6) (T := TX6) (N := 8) hx hb hts (fun w h => List.mem_cons_of_mem _ (inlX6 w h)) hown hK hP 11 rfl rfl 0 (by decide) (hts (.fieldLink RX6 27 "ClearingGates$Runner" "books" "LClearingGates$Books;") (List.mem_cons_of_mem _ mw_185)) (fun _ h9 => h9) rfl dX6_attempt_41 ?_
      refine lv_dup hx hb dX6_attempt_44 rfl ?_
      refine va_get (D := (dC, dI)) (ci := 0) (v := .int q37) (C := RX0) (T := TX0) (N := 13) hx hb hts (fun w h => List.mem_cons_of_mem _ (inlX0 w h)) hown hK hP 23 rfl rfl 12 (by decide) (hts (.fieldLink RX6 122 "ClearingGates$Books" "caught" "I") (List.mem_cons_of_mem _ mw_127)) (fun _ h9 => h9) rfl dX6_attempt_45 ?_
      refine lv_iconst (v := 1) hx hb dX6_attempt_48 (by decide) ?_
      refine lv_iadd hx hb dX6_attempt_49 ?_
      refine lv_topi (fun z44 e_z44 => ?_)
      (first | have t_z44 := i_add e_z44 (by omega) (by omega) | skip)
      refine va_put (D := (dC, dI)) (ci := 0) (v := .int z44) (ty := .int) (C := RX0) (T := TX0) (N := 13) hx hb hts (fun w h => List.mem_cons_of_mem _ (inlX0 w h)) tyX0 tyX0_ok nmX0 hown hK hP hD hS 23 rfl rfl 12 (by decide) (hts (.fieldLink RX6 122 "ClearingGates$Books" "caught" "I") (List.mem_cons_of_mem _ mw_127)) (fun _ h9 => h9) rfl (by decide +kernel) rfl rfl (Nat.le_of_ble_eq_true rfl) dX6_attempt_50 (fun H locs hP hD hS => ?_)
      obtain ⟨hP, hD⟩ := X_s (ws' := [eI qm km 60 q15, eI qh kh 8 q16, eI aq0 ak0 8 ag0, eI aq2 ak2 8 ag2, eI aq3 ak3 8 ag3, eI aq4 ak4 8 q30, eI aq5 ak5 8 q31, eI aq6 ak6 8 q32, eO jp 2 [.ref pb, .ref pn, .int ps], eI pb kpb 80 fpb, eI pn kpn 80 fpn, eO h0 5 [.ref jb, .ref qm, .int q27, .ref qh, .ref qk, .ref qf, .int q28, .ref jp], eR qk kk 9 fo, eI ro0 kr0 8 q17, eI ro1 kr1 8 q18, eI ro2 kr2 8 q19, eI ro3 kr3 8 q20, eI ro4 kr4 8 q21, eI ro5 kr5 8 q22, eI ro6 kr6 8 q23, eI ro7 kr7 8 q24, eI ro8 kr8 8 q25, eL qf kf 9 q26, eO jb 0 [.ref aq0, .ref aq1, .ref aq2, .ref aq3, .ref aq4, .ref aq5, .ref aq6, .int aacc, .long q43, .int q34, .int q35, .int q36, .int z44], eI aq1 ak1 8 q42]) hP hD rfl
      refine lv_aload_n hx hb dX6_attempt_53 rfl (lv_at hl 1 rfl) ?_
      refine lv_bipush (v := 50) hx hb dX6_attempt_54 (by decide) ?_
      refine lv_iload hx hb dX6_attempt_56 (lv_at hl 0 rfl) ?_
      refine lv_iadd hx hb dX6_attempt_58 ?_
      refine lv_topi (fun z45 e_z45 => ?_)
      (first | have t_z45 := i_add e_z45 (by omega) (by omega) | skip)
      obtain ⟨hPc, hDc, hFc, hCm, hNw⟩ := C_s (wc := [eO h0 5 [.ref jb, .ref qm, .int q27, .ref qh, .ref qk, .ref qf, .int q28, .ref jp], eI qm km 60 q15]) hP hD hS hA [(11, 1), (0, 1)] 25 rfl (by decide +kernel) rfl
      have hKc := K_s (tys' := [(km, .int)]) hK [(0, 1)] rfl
      refine va_callv (va_runV (As := [.int z45]) (rest := []) ⟨hx, hb, hml, hown, hts⟩ (c_X6_mark l dC dI h0 z45 jb qm q27 qh qk qf q28 jp km q15 H.size (by first | assumption | omega) (by first | assumption | omega)) (cwV 1 hts gX6_attempt_X6_mark rfl rfl rfl (by decide +kernel) ⟨(show (0) + 1 ≤ 10 * nd + 8 by omega), (show 8 + (2 + 11) + (0) ≤ 200 * nd + 120 by omega)⟩) ⟨fun a U g mk q => by obtain ⟨q0, q1, qP, qK, qD⟩ := q; exact ⟨q0, q1, qP, va_K.moved (u := U) (U := U.calling g mk a) (Vm.Alike.refl U.vm) qK, qD⟩, va_recv (s := s) (q := (RX6, TX6, 8)) hKc hPc (ci := 5) (q0 := 0) rfl rfl, fun U hU hW => ⟨rfl, by rw [hU], by rw [hU]; exact hPc, va_K.moved hW.alike hKc, hDc.weaken (fun _ _ _ _ => trivial)⟩⟩ rfl rfl hl.1 rfl (lv_room (Nat.le_of_ble_eq_true rfl)) dX6_attempt_59 ⟨Nat.le_of_ble_eq_true rfl, Nat.le_of_ble_eq_true rfl⟩) hS (fun q _ h => hFc q h) hFc (fun u t H1 locs ht hvm hw hB hz1 hk1 hS => ?_)
      obtain ⟨q47, q48, x1_r46, hP1, hK1, hD1⟩ := hB
      rw [ht] at hP1
      have hK1 := va_K.moved hvm.symm hK1
      try dsimp only at hw
      obtain ⟨hP, hD⟩ := J_s (wL := [eI qh kh 8 q16, eI aq0 ak0 8 ag0, eI aq2 ak2 8 ag2, eI aq3 ak3 8 ag3, eI aq4 ak4 8 q30, eI aq5 ak5 8 q31, eI aq6 ak6 8 q32, eO jp 2 [.ref pb, .ref pn, .int ps], eI pb kpb 80 fpb, eI pn kpn 80 fpn, eR qk kk 9 fo, eI ro0 kr0 8 q17, eI ro1 kr1 8 q18, eI ro2 kr2 8 q19, eI ro3 kr3 8 q20, eI ro4 kr4 8 q21, eI ro5 kr5 8 q22, eI ro6 kr6 8 q23, eI ro7 kr7 8 q24, eI ro8 kr8 8 q25, eL qf kf 9 q26, eO jb 0 [.ref aq0, .ref aq1, .ref aq2, .ref aq3, .ref aq4, .ref aq5, .ref aq6, .int aacc, .long q43, .int q34, .int q35, .int q36, .int z44], eI aq1 ak1 8 q42, eO h0 5 [.ref jb, .ref qm, .int q48, .ref qh, .ref qk, .ref qf, .int q28, .ref jp], eI qm km 60 q47]) hP hD [(11, 1), (0, 1)] [(1, 10), (12, 13)] hCm hNw (by decide +kernel) hk1 hFc hP1 hD1 rfl
      have hK := KJ_s (tys' := [(kh, .int), (ak0, .int), (ak2, .int), (ak3, .boolean), (ak4, .int), (ak5, .int), (ak6, .int), (kpb, .int), (kpn, .int), (kk, .array .int), (kr0, .int), (kr1, .int), (kr2, .int), (kr3, .int), (kr4, .int), (kr5, .int), (kr6, .int), (kr7, .int), (kr8, .int), (kf, .long), (ak1, .int), (km, .int)]) hK hK1 [(1, 21)] rfl
      generalize H1 = H at hP hS ⊢
      refine lv_iconst (v := 0) hx hb dX6_attempt_62 (by decide) ?_
      rw [hQ9]
      exact W.iret (v := 0) hx hb hr (fun t ht hW => ⟨⟨0, (), rfl, (by first | rfl | trivial), q47, q16, q17, q18, q19, q20, q21, q22, q23, q24, q25, q26, q48, q28, q42, q30, q31, q32, q43, q34, q35, q36, z44, (by first | assumption | omega), (by first | assumption | omega), (by first | assumption | omega), (by first | assumption | omega), by rw [ht]; exact P_s hP [(23, 2), (0, 1), (10, 12), (1, 1), (22, 1), (2, 8)] rfl, va_K.moved hW.alike (K_s hK [(21, 1), (0, 1), (9, 11), (1, 1), (20, 1), (2, 7)] rfl), D_s hD [(23, 2), (0, 1), (10, 12), (1, 1), (22, 1), (2, 8)] 25 rfl (by decide +kernel) rfl⟩, hS.F ht⟩) hS.2.2 dX6_attempt_63
    · skip
      have f_c39 := i_nle c39
      refine lv_iload hx hb dX6_attempt_30 (lv_at hl 0 rfl) ?_
      rw [hQ9]
      exact W.iret (v := r14) hx hb hr (fun t ht hW => ⟨⟨r14, (), rfl, (by first | rfl | trivial), q15, q16, q17, q18, q19, q20, q21, q22, q23, q24, q25, q26, q27, q28, q29, q30, q31, q32, q33, q34, q35, q36, q37, (by first | assumption | omega), (by first | assumption | omega), (by first | assumption | omega), (by first | assumption | omega), by rw [ht]; exact hP, va_K.moved hW.alike hK, hD⟩, hS.F ht⟩) hS.2.2 dX6_attempt_32

set_option maxRecDepth 100000 in
set_option maxHeartbeats 4000000 in
/-- Runner.loop -/
theorem c_X6_loop (l : Launch) (dC : Nat → ClassId) (dI : Nat → Nat → Nat) (h0 : Nat) (p0 : Int32) (dp : Int32) (jb : Nat) (qm : Nat) (mc : Int32) (qh : Nat) (qk : Nat) (qf : Nat) (bg : Int32) (jp : Nat) (km : ClassId) (fm : Nat → Int32) (kh : ClassId) (fh : Nat → Int32) (kk : ClassId) (fo : Nat → Option Nat) (ro0 : Nat) (kr0 : ClassId) (fr0 : Nat → Int32) (ro1 : Nat) (kr1 : ClassId) (fr1 : Nat → Int32) (ro2 : Nat) (kr2 : ClassId) (fr2 : Nat → Int32) (ro3 : Nat) (kr3 : ClassId) (fr3 : Nat → Int32) (ro4 : Nat) (kr4 : ClassId) (fr4 : Nat → Int32) (ro5 : Nat) (kr5 : ClassId) (fr5 : Nat → Int32) (ro6 : Nat) (kr6 : ClassId) (fr6 : Nat → Int32) (ro7 : Nat) (kr7 : ClassId) (fr7 : Nat → Int32) (ro8 : Nat) (kr8 : ClassId) (fr8 : Nat → Int32) (kf : ClassId) (ff : Nat → Int64) (aq0 : Nat) (aq1 : Nat) (aq2 : Nat) (aq3 : Nat) (aq4 : Nat) (aq5 : Nat) (aq6 : Nat) (aacc : Int32) (afees : Int64) (amis : Int32) (abel : Int32) (aref : Int32) (acau : Int32) (ak0 : ClassId) (ag0 : Nat → Int32) (ak1 : ClassId) (ag1 : Nat → Int32) (ak2 : ClassId) (ag2 : Nat → Int32) (ak3 : ClassId) (ag3 : Nat → Int32) (ak4 : ClassId) (ag4 : Nat → Int32) (ak5 : ClassId) (ag5 : Nat → Int32) (ak6 : ClassId) (ag6 : Nat → Int32) (pb : Nat) (pn : Nat) (ps : Int32) (kpb : ClassId) (fpb : Nat → Int32) (kpn : ClassId) (fpn : Nat → Int32) (nd : Nat) (sz : Nat) (ra1 : 0 ≤ aacc.toInt) (ra2 : aacc.toInt ≤ 8) (hp1 : 0 ≤ ps.toInt) (hp2 : ps.toInt ≤ 80) (hb0 : ∀ k : Nat, 0 ≤ (fpn k).toInt ∧ (fpn k).toInt ≤ 80) (hf0 : fo 0 = some ro0) (hf1 : fo 1 = some ro1) (hf2 : fo 2 = some ro2) (hf3 : fo 3 = some ro3) (hf4 : fo 4 = some ro4) (hf5 : fo 5 = some ro5) (hf6 : fo 6 = some ro6) (hf7 : fo 7 = some ro7) (hf8 : fo 8 = some ro8) (rb1 : 0 ≤ bg.toInt) (rb2 : bg.toInt ≤ 500) (rb3 : 0 ≤ mc.toInt) (rb4 : mc.toInt + 2 * (500 - bg.toInt) ≤ 1100) (pl1 : 0 ≤ p0.toInt) (pl2 : p0.toInt ≤ 90) (hd0 : 0 ≤ dp.toInt) (hdn : dp.toInt + (nd : Int) = 8) (ih : ∀ m : Nat, m + 1 = nd → KI l dC dI m) : Met l yX6_loop wsX6_loop ({ frames := 10 * nd + 8, cells := 0, slots := 0, locals := 200 * nd + 120 }) (va_Pc [.ref h0, .int p0, .int dp] (fun U => U.heap.size = sz ∧ va_P (dC, dI) vwCl [eO h0 5 [.ref jb, .ref qm, .int mc, .ref qh, .ref qk, .ref qf, .int bg, .ref jp], eI qm km 60 fm, eI qh kh 8 fh, eR qk kk 9 fo, eI ro0 kr0 8 fr0, eI ro1 kr1 8 fr1, eI ro2 kr2 8 fr2, eI ro3 kr3 8 fr3, eI ro4 kr4 8 fr4, eI ro5 kr5 8 fr5, eI ro6 kr6 8 fr6, eI ro7 kr7 8 fr7, eI ro8 kr8 8 fr8, eL qf kf 9 ff, eO jb 0 [.ref aq0, .ref aq1, .ref aq2, .ref aq3, .ref aq4, .ref aq5, .ref aq6, .int aacc, .long afees, .int amis, .int abel, .int aref, .int acau], eI aq0 ak0 8 ag0, eI aq1 ak1 8 ag1, eI aq2 ak2 8 ag2, eI aq3 ak3 8 ag3, eI aq4 ak4 8 ag4, eI aq5 ak5 8 ag5, eI aq6 ak6 8 ag6, eO jp 2 [.ref pb, .ref pn, .int ps], eI pb kpb 80 fpb, eI pn kpn 80 fpn] U.heap ∧ va_K (dC, dI) vwCl [(km, .int), (kh, .int), (kk, .array .int), (kr0, .int), (kr1, .int), (kr2, .int), (kr3, .int), (kr4, .int), (kr5, .int), (kr6, .int), (kr7, .int), (kr8, .int), (kf, .long), (ak0, .int), (ak1, .int), (ak2, .int), (ak3, .boolean), (ak4, .int), (ak5, .int), (ak6, .int), (kpb, .int), (kpn, .int)] U ∧ va_D (fun _ => True) [eO h0 5 [.ref jb, .ref qm, .int mc, .ref qh, .ref qk, .ref qf, .int bg, .ref jp], eI qm km 60 fm, eI qh kh 8 fh, eR qk kk 9 fo, eI ro0 kr0 8 fr0, eI ro1 kr1 8 fr1, eI ro2 kr2 8 fr2, eI ro3 kr3 8 fr3, eI ro4 kr4 8 fr4, eI ro5 kr5 8 fr5, eI ro6 kr6 8 fr6, eI ro7 kr7 8 fr7, eI ro8 kr8 8 fr8, eL qf kf 9 ff, eO jb 0 [.ref aq0, .ref aq1, .ref aq2, .ref aq3, .ref aq4, .ref aq5, .ref aq6, .int aacc, .long afees, .int amis, .int abel, .int aref, .int acau], eI aq0 ak0 8 ag0, eI aq1 ak1 8 ag1, eI aq2 ak2 8 ag2, eI aq3 ak3 8 ag3, eI aq4 ak4 8 ag4, eI aq5 ak5 8 ag5, eI aq6 ak6 8 ag6, eO jp 2 [.ref pb, .ref pn, .int ps], eI pb kpb 80 fpb, eI pn kpn 80 fpn])) (va_Qi (fun (r : Int32) (_ : Unit) => True) (fun (_ : Unit) (t : State) => ∃ (fm' : Nat → Int32), ∃ (fh' : Nat → Int32), ∃ (fr0' : Nat → Int32), ∃ (fr1' : Nat → Int32), ∃ (fr2' : Nat → Int32), ∃ (fr3' : Nat → Int32), ∃ (fr4' : Nat → Int32), ∃ (fr5' : Nat → Int32), ∃ (fr6' : Nat → Int32), ∃ (fr7' : Nat → Int32), ∃ (fr8' : Nat → Int32), ∃ (ff' : Nat → Int64), ∃ (mc' : Int32), ∃ (bg' : Int32), ∃ (ag1' : Nat → Int32), ∃ (ag4' : Nat → Int32), ∃ (ag5' : Nat → Int32), ∃ (ag6' : Nat → Int32), ∃ (afees' : Int64), ∃ (amis' : Int32), ∃ (abel' : Int32), ∃ (aref' : Int32), ∃ (acau' : Int32), (bg.toInt ≤ bg'.toInt) ∧ (bg'.toInt ≤ 500) ∧ (0 ≤ mc'.toInt) ∧ (mc'.toInt + 2 * (500 - bg'.toInt) ≤ mc.toInt + 2 * (500 - bg.toInt) + 0) ∧ va_P (dC, dI) vwCl [eO h0 5 [.ref jb, .ref qm, .int mc', .ref qh, .ref qk, .ref qf, .int bg', .ref jp], eI qm km 60 (fm'), eI qh kh 8 (fh'), eR qk kk 9 fo, eI ro0 kr0 8 (fr0'), eI ro1 kr1 8 (fr1'), eI ro2 kr2 8 (fr2'), eI ro3 kr3 8 (fr3'), eI ro4 kr4 8 (fr4'), eI ro5 kr5 8 (fr5'), eI ro6 kr6 8 (fr6'), eI ro7 kr7 8 (fr7'), eI ro8 kr8 8 (fr8'), eL qf kf 9 (ff'), eO jb 0 [.ref aq0, .ref aq1, .ref aq2, .ref aq3, .ref aq4, .ref aq5, .ref aq6, .int aacc, .long afees', .int amis', .int abel', .int aref', .int acau'], eI aq0 ak0 8 ag0, eI aq1 ak1 8 (ag1'), eI aq2 ak2 8 ag2, eI aq3 ak3 8 ag3, eI aq4 ak4 8 (ag4'), eI aq5 ak5 8 (ag5'), eI aq6 ak6 8 (ag6'), eO jp 2 [.ref pb, .ref pn, .int ps], eI pb kpb 80 fpb, eI pn kpn 80 fpn] t.heap ∧ va_K (dC, dI) vwCl [(km, .int), (kh, .int), (kk, .array .int), (kr0, .int), (kr1, .int), (kr2, .int), (kr3, .int), (kr4, .int), (kr5, .int), (kr6, .int), (kr7, .int), (kr8, .int), (kf, .long), (ak0, .int), (ak1, .int), (ak2, .int), (ak3, .boolean), (ak4, .int), (ak5, .int), (ak6, .int), (kpb, .int), (kpn, .int)] t ∧ va_D (va_A [eO h0 5 [.ref jb, .ref qm, .int mc, .ref qh, .ref qk, .ref qf, .int bg, .ref jp], eI qm km 60 fm, eI qh kh 8 fh, eR qk kk 9 fo, eI ro0 kr0 8 fr0, eI ro1 kr1 8 fr1, eI ro2 kr2 8 fr2, eI ro3 kr3 8 fr3, eI ro4 kr4 8 fr4, eI ro5 kr5 8 fr5, eI ro6 kr6 8 fr6, eI ro7 kr7 8 fr7, eI ro8 kr8 8 fr8, eL qf kf 9 ff, eO jb 0 [.ref aq0, .ref aq1, .ref aq2, .ref aq3, .ref aq4, .ref aq5, .ref aq6, .int aacc, .long afees, .int amis, .int abel, .int aref, .int acau], eI aq0 ak0 8 ag0, eI aq1 ak1 8 ag1, eI aq2 ak2 8 ag2, eI aq3 ak3 8 ag3, eI aq4 ak4 8 ag4, eI aq5 ak5 8 ag5, eI aq6 ak6 8 ag6, eO jp 2 [.ref pb, .ref pn, .int ps], eI pb kpb 80 fpb, eI pn kpn 80 fpn] sz) [eO h0 5 [.ref jb, .ref qm, .int mc', .ref qh, .ref qk, .ref qf, .int bg', .ref jp], eI qm km 60 (fm'), eI qh kh 8 (fh'), eR qk kk 9 fo, eI ro0 kr0 8 (fr0'), eI ro1 kr1 8 (fr1'), eI ro2 kr2 8 (fr2'), eI ro3 kr3 8 (fr3'), eI ro4 kr4 8 (fr4'), eI ro5 kr5 8 (fr5'), eI ro6 kr6 8 (fr6'), eI ro7 kr7 8 (fr7'), eI ro8 kr8 8 (fr8'), eL qf kf 9 (ff'), eO jb 0 [.ref aq0, .ref aq1, .ref aq2, .ref aq3, .ref aq4, .ref aq5, .ref aq6, .int aacc, .long afees', .int amis', .int abel', .int aref', .int acau'], eI aq0 ak0 8 ag0, eI aq1 ak1 8 (ag1'), eI aq2 ak2 8 ag2, eI aq3 ak3 8 ag3, eI aq4 ak4 8 (ag4'), eI aq5 ak5 8 (ag5'), eI aq6 ak6 8 (ag6'), eO jp 2 [.ref pb, .ref pn, .int ps], eI pb kpb 80 fpb, eI pn kpn 80 fpn]) (va_A [eO h0 5 [.ref jb, .ref qm, .int mc, .ref qh, .ref qk, .ref qf, .int bg, .ref jp], eI qm km 60 fm, eI qh kh 8 fh, eR qk kk 9 fo, eI ro0 kr0 8 fr0, eI ro1 kr1 8 fr1, eI ro2 kr2 8 fr2, eI ro3 kr3 8 fr3, eI ro4 kr4 8 fr4, eI ro5 kr5 8 fr5, eI ro6 kr6 8 fr6, eI ro7 kr7 8 fr7, eI ro8 kr8 8 fr8, eL qf kf 9 ff, eO jb 0 [.ref aq0, .ref aq1, .ref aq2, .ref aq3, .ref aq4, .ref aq5, .ref aq6, .int aacc, .long afees, .int amis, .int abel, .int aref, .int acau], eI aq0 ak0 8 ag0, eI aq1 ak1 8 ag1, eI aq2 ak2 8 ag2, eI aq3 ak3 8 ag3, eI aq4 ak4 8 ag4, eI aq5 ak5 8 ag5, eI aq6 ak6 8 ag6, eO jp 2 [.ref pb, .ref pn, .int ps], eI pb kpb 80 fpb, eI pn kpn 80 fpn] sz)) 0 0 (va_A [eO h0 5 [.ref jb, .ref qm, .int mc, .ref qh, .ref qk, .ref qf, .int bg, .ref jp], eI qm km 60 fm, eI qh kh 8 fh, eR qk kk 9 fo, eI ro0 kr0 8 fr0, eI ro1 kr1 8 fr1, eI ro2 kr2 8 fr2, eI ro3 kr3 8 fr3, eI ro4 kr4 8 fr4, eI ro5 kr5 8 fr5, eI ro6 kr6 8 fr6, eI ro7 kr7 8 fr7, eI ro8 kr8 8 fr8, eL qf kf 9 ff, eO jb 0 [.ref aq0, .ref aq1, .ref aq2, .ref aq3, .ref aq4, .ref aq5, .ref aq6, .int aacc, .long afees, .int amis, .int abel, .int aref, .int acau], eI aq0 ak0 8 ag0, eI aq1 ak1 8 ag1, eI aq2 ak2 8 ag2, eI aq3 ak3 8 ag3, eI aq4 ak4 8 ag4, eI aq5 ak5 8 ag5, eI aq6 ak6 8 ag6, eO jp 2 [.ref pb, .ref pn, .int ps], eI pb kpb 80 fpb, eI pn kpn 80 fpn] sz) := by
  refine Met.ofW (cc := cX6_loop) (maxL := 6) (ret := (some .int)) (by decide) rfl ?_
  intro p e s m args below meth c s₁ B hml hv
  obtain ⟨rfl, hsz, hP, hK, hD0⟩ := hv
  have hx := B.exec
  have hb := B.bytes
  have hr := B.returns
  have hts := atoms_spec (ws := wsX6_loop) B.pre
  have hown : s.vm.findClass RX6 = some m.cls := findClass_of_methodNamed B.named
  have hlocks := B.notSynchronized
  subst hsz
  have hD := hD0.self (sz := s.heap.size)
  generalize hAe : va_A [eO h0 5 [.ref jb, .ref qm, .int mc, .ref qh, .ref qk, .ref qf, .int bg, .ref jp], eI qm km 60 fm, eI qh kh 8 fh, eR qk kk 9 fo, eI ro0 kr0 8 fr0, eI ro1 kr1 8 fr1, eI ro2 kr2 8 fr2, eI ro3 kr3 8 fr3, eI ro4 kr4 8 fr4, eI ro5 kr5 8 fr5, eI ro6 kr6 8 fr6, eI ro7 kr7 8 fr7, eI ro8 kr8 8 fr8, eL qf kf 9 ff, eO jb 0 [.ref aq0, .ref aq1, .ref aq2, .ref aq3, .ref aq4, .ref aq5, .ref aq6, .int aacc, .long afees, .int amis, .int abel, .int aref, .int acau], eI aq0 ak0 8 ag0, eI aq1 ak1 8 ag1, eI aq2 ak2 8 ag2, eI aq3 ak3 8 ag3, eI aq4 ak4 8 ag4, eI aq5 ak5 8 ag5, eI aq6 ak6 8 ag6, eO jp 2 [.ref pb, .ref pn, .int ps], eI pb kpb 80 fpb, eI pn kpn 80 fpn] s.heap.size = A at hD ⊢
  have hA : ∀ q : Nat, s.heap.size ≤ q → A q := fun q h => by rw [← hAe]; exact Or.inr h
  have hS : va_S A s.heap s.heap [] := va_S.rf
  have hP : va_P (dC, dI) vwCl [eO h0 5 [.ref jb, .ref qm, .int mc, .ref qh, .ref qk, .ref qf, .int bg, .ref jp], eI qm km 60 fm, eI qh kh 8 fh, eR qk kk 9 fo, eI ro0 kr0 8 fr0, eI ro1 kr1 8 fr1, eI ro2 kr2 8 fr2, eI ro3 kr3 8 fr3, eI ro4 kr4 8 fr4, eI ro5 kr5 8 fr5, eI ro6 kr6 8 fr6, eI ro7 kr7 8 fr7, eI ro8 kr8 8 fr8, eL qf kf 9 ff, eO jb 0 [.ref aq0, .ref aq1, .ref aq2, .ref aq3, .ref aq4, .ref aq5, .ref aq6, .int aacc, .long afees, .int amis, .int abel, .int aref, .int acau], eI aq0 ak0 8 ag0, eI aq1 ak1 8 ag1, eI aq2 ak2 8 ag2, eI aq3 ak3 8 ag3, eI aq4 ak4 8 ag4, eI aq5 ak5 8 ag5, eI aq6 ak6 8 ag6, eO jp 2 [.ref pb, .ref pn, .int ps], eI pb kpb 80 fpb, eI pn kpn 80 fpn] s.heap := hP
  have hl := lv_entry ([.ref h0, .int p0, .int dp]) (n := 6) (Nat.le_of_ble_eq_true rfl)
  rw [lg_entry_eq]
  generalize (lg_sl ([.ref h0, .int p0, .int dp]) ++ List.replicate (6 - (lg_sl ([.ref h0, .int p0, .int dp])).length) Slot.unset).toArray = ls at hl ⊢
  have hl : lv_has ls 6 [(0, .ref h0), (1, .int p0), (2, .int dp)] := hl
  suffices key9 : ∀ Q9 : State → Prop, Q9 = (MQ below (va_Qi (fun (r : Int32) (_ : Unit) => True) (fun (_ : Unit) (t : State) => ∃ (fm' : Nat → Int32), ∃ (fh' : Nat → Int32), ∃ (fr0' : Nat → Int32), ∃ (fr1' : Nat → Int32), ∃ (fr2' : Nat → Int32), ∃ (fr3' : Nat → Int32), ∃ (fr4' : Nat → Int32), ∃ (fr5' : Nat → Int32), ∃ (fr6' : Nat → Int32), ∃ (fr7' : Nat → Int32), ∃ (fr8' : Nat → Int32), ∃ (ff' : Nat → Int64), ∃ (mc' : Int32), ∃ (bg' : Int32), ∃ (ag1' : Nat → Int32), ∃ (ag4' : Nat → Int32), ∃ (ag5' : Nat → Int32), ∃ (ag6' : Nat → Int32), ∃ (afees' : Int64), ∃ (amis' : Int32), ∃ (abel' : Int32), ∃ (aref' : Int32), ∃ (acau' : Int32), (bg.toInt ≤ bg'.toInt) ∧ (bg'.toInt ≤ 500) ∧ (0 ≤ mc'.toInt) ∧ (mc'.toInt + 2 * (500 - bg'.toInt) ≤ mc.toInt + 2 * (500 - bg.toInt) + 0) ∧ va_P (dC, dI) vwCl [eO h0 5 [.ref jb, .ref qm, .int mc', .ref qh, .ref qk, .ref qf, .int bg', .ref jp], eI qm km 60 (fm'), eI qh kh 8 (fh'), eR qk kk 9 fo, eI ro0 kr0 8 (fr0'), eI ro1 kr1 8 (fr1'), eI ro2 kr2 8 (fr2'), eI ro3 kr3 8 (fr3'), eI ro4 kr4 8 (fr4'), eI ro5 kr5 8 (fr5'), eI ro6 kr6 8 (fr6'), eI ro7 kr7 8 (fr7'), eI ro8 kr8 8 (fr8'), eL qf kf 9 (ff'), eO jb 0 [.ref aq0, .ref aq1, .ref aq2, .ref aq3, .ref aq4, .ref aq5, .ref aq6, .int aacc, .long afees', .int amis', .int abel', .int aref', .int acau'], eI aq0 ak0 8 ag0, eI aq1 ak1 8 (ag1'), eI aq2 ak2 8 ag2, eI aq3 ak3 8 ag3, eI aq4 ak4 8 (ag4'), eI aq5 ak5 8 (ag5'), eI aq6 ak6 8 (ag6'), eO jp 2 [.ref pb, .ref pn, .int ps], eI pb kpb 80 fpb, eI pn kpn 80 fpn] t.heap ∧ va_K (dC, dI) vwCl [(km, .int), (kh, .int), (kk, .array .int), (kr0, .int), (kr1, .int), (kr2, .int), (kr3, .int), (kr4, .int), (kr5, .int), (kr6, .int), (kr7, .int), (kr8, .int), (kf, .long), (ak0, .int), (ak1, .int), (ak2, .int), (ak3, .boolean), (ak4, .int), (ak5, .int), (ak6, .int), (kpb, .int), (kpn, .int)] t ∧ va_D A [eO h0 5 [.ref jb, .ref qm, .int mc', .ref qh, .ref qk, .ref qf, .int bg', .ref jp], eI qm km 60 (fm'), eI qh kh 8 (fh'), eR qk kk 9 fo, eI ro0 kr0 8 (fr0'), eI ro1 kr1 8 (fr1'), eI ro2 kr2 8 (fr2'), eI ro3 kr3 8 (fr3'), eI ro4 kr4 8 (fr4'), eI ro5 kr5 8 (fr5'), eI ro6 kr6 8 (fr6'), eI ro7 kr7 8 (fr7'), eI ro8 kr8 8 (fr8'), eL qf kf 9 (ff'), eO jb 0 [.ref aq0, .ref aq1, .ref aq2, .ref aq3, .ref aq4, .ref aq5, .ref aq6, .int aacc, .long afees', .int amis', .int abel', .int aref', .int acau'], eI aq0 ak0 8 ag0, eI aq1 ak1 8 (ag1'), eI aq2 ak2 8 ag2, eI aq3 ak3 8 ag3, eI aq4 ak4 8 (ag4'), eI aq5 ak5 8 (ag5'), eI aq6 ak6 8 (ag6'), eO jp 2 [.ref pb, .ref pn, .int ps], eI pb kpb 80 fpb, eI pn kpn 80 fpn]) A) (([.ref h0, .int p0, .int dp] : List Value).toArray) s 0 0 A) → W p l e ({ frames := 10 * nd + 8, cells := 0, slots := 0, locals := 200 * nd + 120 }) s m (([.ref h0, .int p0, .int dp] : List Value).toArray) below meth c s.heap [] 0 0 Q9 (F0 m 0 ls []) from key9 _ rfl
  intro Q9 hQ9
  have k_0 : (0 : Int32).toInt = 0 := by decide
  have k_1 : (1 : Int32).toInt = 1 := by decide
  have k_2 : (2 : Int32).toInt = 2 := by decide
  have k_6 : (6 : Int32).toInt = 6 := by decide
  have k_7 : (7 : Int32).toInt = 7 := by decide
  refine lv_aload_n hx hb dX6_loop_0 rfl (lv_at hl 0 rfl) ?_
  refine va_get (D := (dC, dI)) (ci := 5) (v := .ref jp) (C := RX6) (T := TX6) (N := 8) hx hb hts (fun w h => List.mem_cons_of_mem _ (inlX6 w h)) hown hK hP 0 rfl rfl 7 (by decide) (hts (.fieldLink RX6 41 "ClearingGates$Runner" "program" "LClearingGates$Program;") (List.mem_cons_of_mem _ mw_195)) (fun _ h9 => h9) rfl dX6_loop_1 ?_
  refine lv_iload_n hx hb dX6_loop_4 rfl (lv_at hl 1 rfl) ?_
  refine lv_iconst (v := 1) hx hb dX6_loop_5 (by decide) ?_
  refine lv_iadd hx hb dX6_loop_6 ?_
  refine lv_topi (fun z1 e_z1 => ?_)
  (first | have t_z1 := i_add e_z1 (by omega) (by omega) | skip)
  obtain ⟨hPc, hDc, hFc, hCm, hNw⟩ := C_s (wc := [eO jp 2 [.ref pb, .ref pn, .int ps], eI pb kpb 80 fpb]) hP hD hS hA [(22, 2)] 25 rfl (by decide +kernel) rfl
  have hKc := K_s (tys' := [(kpb, .int)]) hK [(20, 1)] rfl
  refine va_calli (va_runV (As := [.int z1]) (rest := []) ⟨hx, hb, hml, hown, hts⟩ (c_X3_figureAt l dC dI jp z1 pb pn ps kpb fpb s.heap.size hp1 hp2) (cwV 1 hts gX6_loop_X3_figureAt rfl rfl rfl (by decide +kernel) ⟨(show (1) + 1 ≤ 10 * nd + 8 by omega), (show 8 + (2 + 11) + (21) ≤ 200 * nd + 120 by omega)⟩) ⟨fun a U g mk q => by obtain ⟨q0, q1, qP, qK, qD⟩ := q; exact ⟨q0, q1, qP, va_K.moved (u := U) (U := U.calling g mk a) (Vm.Alike.refl U.vm) qK, qD⟩, va_recv (s := s) (q := (RX3, TX3, 3)) hKc hPc (ci := 2) (q0 := 0) rfl rfl, fun U hU hW => ⟨rfl, by rw [hU], by rw [hU]; exact hPc, va_K.moved hW.alike hKc, hDc.weaken (fun _ _ _ _ => trivial)⟩⟩ rfl rfl hl.1 rfl (lv_room (Nat.le_of_ble_eq_true rfl)) dX6_loop_7 ⟨Nat.le_of_ble_eq_true rfl, Nat.le_of_ble_eq_true rfl⟩) hS (fun q _ h => hFc q h) hFc (fun r2 u t H1 locs ht hvm hw hB hz1 hk1 hS => ?_)
  obtain ⟨hP1, hK1, hD1⟩ := hB
  rw [ht] at hP1
  have hK1 := va_K.moved hvm.symm hK1
  try dsimp only at hw
  obtain ⟨hP, hD⟩ := J_s (wL := [eO h0 5 [.ref jb, .ref qm, .int mc, .ref qh, .ref qk, .ref qf, .int bg, .ref jp], eI qm km 60 fm, eI qh kh 8 fh, eR qk kk 9 fo, eI ro0 kr0 8 fr0, eI ro1 kr1 8 fr1, eI ro2 kr2 8 fr2, eI ro3 kr3 8 fr3, eI ro4 kr4 8 fr4, eI ro5 kr5 8 fr5, eI ro6 kr6 8 fr6, eI ro7 kr7 8 fr7, eI ro8 kr8 8 fr8, eL qf kf 9 ff, eO jb 0 [.ref aq0, .ref aq1, .ref aq2, .ref aq3, .ref aq4, .ref aq5, .ref aq6, .int aacc, .long afees, .int amis, .int abel, .int aref, .int acau], eI aq0 ak0 8 ag0, eI aq1 ak1 8 ag1, eI aq2 ak2 8 ag2, eI aq3 ak3 8 ag3, eI aq4 ak4 8 ag4, eI aq5 ak5 8 ag5, eI aq6 ak6 8 ag6, eI pn kpn 80 fpn, eO jp 2 [.ref pb, .ref pn, .int ps], eI pb kpb 80 fpb]) hP hD [(22, 2)] [(0, 22), (24, 1)] hCm hNw (by decide +kernel) hk1 hFc hP1 hD1 rfl
  have hK := KJ_s (tys' := [(km, .int), (kh, .int), (kk, .array .int), (kr0, .int), (kr1, .int), (kr2, .int), (kr3, .int), (kr4, .int), (kr5, .int), (kr6, .int), (kr7, .int), (kr8, .int), (kf, .long), (ak0, .int), (ak1, .int), (ak2, .int), (ak3, .boolean), (ak4, .int), (ak5, .int), (ak6, .int), (kpn, .int), (kpb, .int)]) hK hK1 [(0, 20), (21, 1)] rfl
  generalize H1 = H at hP hS ⊢
  have b_r2 : r2.toInt ≤ 2147483647 := by have := Int32.toInt_lt r2; omega
  refine lv_istore_n (lv' := [(3, .int r2), (0, .ref h0), (1, .int p0), (2, .int dp)]) hx hb dX6_loop_10 rfl hl (by decide) rfl (fun ls hl => ?_)
  refine lv_iconst (v := 0) hx hb dX6_loop_11 (by decide) ?_
  refine lv_istore (lv' := [(4, .int 0), (3, .int r2), (0, .ref h0), (1, .int p0), (2, .int dp)]) hx hb dX6_loop_12 hl (by decide) rfl (fun ls hl => ?_)
  have loop_14 : ∀ (n : Nat) (tt : Int32) (fmL : Nat → Int32) (fhL : Nat → Int32) (fr0L : Nat → Int32) (fr1L : Nat → Int32) (fr2L : Nat → Int32) (fr3L : Nat → Int32) (fr4L : Nat → Int32) (fr5L : Nat → Int32) (fr6L : Nat → Int32) (fr7L : Nat → Int32) (fr8L : Nat → Int32) (ffL : Nat → Int64) (mcL : Int32) (bgL : Int32) (ag1L : Nat → Int32) (ag4L : Nat → Int32) (ag5L : Nat → Int32) (ag6L : Nat → Int32) (afeesL : Int64) (amisL : Int32) (abelL : Int32) (arefL : Int32) (acauL : Int32), (0 ≤ tt.toInt ∧ tt.toInt ≤ 2147483647) → (bg.toInt ≤ bgL.toInt) → (bgL.toInt ≤ 500) → (0 ≤ mcL.toInt) → (mcL.toInt + 2 * (500 - bgL.toInt) ≤ mc.toInt + 2 * (500 - bg.toInt)) → (2147483648 - tt.toInt) < (n : Int) → ∀ (H : Heap) (locs : List Loc), va_K (dC, dI) vwCl [(km, .int), (kh, .int), (kk, .array .int), (kr0, .int), (kr1, .int), (kr2, .int), (kr3, .int), (kr4, .int), (kr5, .int), (kr6, .int), (kr7, .int), (kr8, .int), (kf, .long), (ak0, .int), (ak1, .int), (ak2, .int), (ak3, .boolean), (ak4, .int), (ak5, .int), (ak6, .int), (kpn, .int), (kpb, .int)] s → va_P (dC, dI) vwCl [eO h0 5 [.ref jb, .ref qm, .int mcL, .ref qh, .ref qk, .ref qf, .int bgL, .ref jp], eI qm km 60 fmL, eI qh kh 8 fhL, eR qk kk 9 fo, eI ro0 kr0 8 fr0L, eI ro1 kr1 8 fr1L, eI ro2 kr2 8 fr2L, eI ro3 kr3 8 fr3L, eI ro4 kr4 8 fr4L, eI ro5 kr5 8 fr5L, eI ro6 kr6 8 fr6L, eI ro7 kr7 8 fr7L, eI ro8 kr8 8 fr8L, eL qf kf 9 ffL, eO jb 0 [.ref aq0, .ref aq1, .ref aq2, .ref aq3, .ref aq4, .ref aq5, .ref aq6, .int aacc, .long afeesL, .int amisL, .int abelL, .int arefL, .int acauL], eI aq0 ak0 8 ag0, eI aq1 ak1 8 ag1L, eI aq2 ak2 8 ag2, eI aq3 ak3 8 ag3, eI aq4 ak4 8 ag4L, eI aq5 ak5 8 ag5L, eI aq6 ak6 8 ag6L, eI pn kpn 80 fpn, eO jp 2 [.ref pb, .ref pn, .int ps], eI pb kpb 80 fpb] H → va_D A [eO h0 5 [.ref jb, .ref qm, .int mcL, .ref qh, .ref qk, .ref qf, .int bgL, .ref jp], eI qm km 60 fmL, eI qh kh 8 fhL, eR qk kk 9 fo, eI ro0 kr0 8 fr0L, eI ro1 kr1 8 fr1L, eI ro2 kr2 8 fr2L, eI ro3 kr3 8 fr3L, eI ro4 kr4 8 fr4L, eI ro5 kr5 8 fr5L, eI ro6 kr6 8 fr6L, eI ro7 kr7 8 fr7L, eI ro8 kr8 8 fr8L, eL qf kf 9 ffL, eO jb 0 [.ref aq0, .ref aq1, .ref aq2, .ref aq3, .ref aq4, .ref aq5, .ref aq6, .int aacc, .long afeesL, .int amisL, .int abelL, .int arefL, .int acauL], eI aq0 ak0 8 ag0, eI aq1 ak1 8 ag1L, eI aq2 ak2 8 ag2, eI aq3 ak3 8 ag3, eI aq4 ak4 8 ag4L, eI aq5 ak5 8 ag5L, eI aq6 ak6 8 ag6L, eI pn kpn 80 fpn, eO jp 2 [.ref pb, .ref pn, .int ps], eI pb kpb 80 fpb] → va_S A s.heap H locs → ∀ (ls : Array Slot), lv_has ls 6 [(4, .int tt), (3, .int r2), (0, .ref h0), (1, .int p0), (2, .int dp)] → W p l e ({ frames := 10 * nd + 8, cells := 0, slots := 0, locals := 200 * nd + 120 }) s m (([.ref h0, .int p0, .int dp] : List Value).toArray) below meth c H locs 0 0 Q9 (F0 m 14 ls []) := by
    intro n
    induction n with
    | zero => intro tt fmL fhL fr0L fr1L fr2L fr3L fr4L fr5L fr6L fr7L fr8L ffL mcL bgL ag1L ag4L ag5L ag6L afeesL amisL abelL arefL acauL l1 l2 l3 l4 l5 hM_14; exfalso; omega
    | succ n ih_14 =>
      intro tt fmL fhL fr0L fr1L fr2L fr3L fr4L fr5L fr6L fr7L fr8L ffL mcL bgL ag1L ag4L ag5L ag6L afeesL amisL abelL arefL acauL l1 l2 l3 l4 l5 hM_14 H locs hK hP hD hS ls hl
      refine lv_iload hx hb dX6_loop_14 (lv_at hl 0 rfl) ?_
      refine lv_iload_n hx hb dX6_loop_16 rfl (lv_at hl 1 rfl) ?_
      refine lv_icmp_ge (tgt := 61) hx hb dX6_loop_17 (by decide) (fun c3 => ?_) (fun c3 => ?_)
      · skip
        have f_c3 := i_le c3
        refine lv_iconst (v := 0) hx hb dX6_loop_61 (by decide) ?_
        rw [hQ9]
        exact W.iret (v := 0) hx hb hr (fun t ht hW => ⟨⟨0, (), rfl, (by first | rfl | trivial), fmL, fhL, fr0L, fr1L, fr2L, fr3L, fr4L, fr5L, fr6L, fr7L, fr8L, ffL, mcL, bgL, ag1L, ag4L, ag5L, ag6L, afeesL, amisL, abelL, arefL, acauL, (by first | assumption | omega), (by first | assumption | omega), (by first | assumption | omega), (by first | assumption | omega), by rw [ht]; exact P_s hP [(0, 22), (23, 2), (22, 1)] rfl, va_K.moved hW.alike (K_s hK [(0, 20), (21, 1), (20, 1)] rfl), D_s hD [(0, 22), (23, 2), (22, 1)] 25 rfl (by decide +kernel) rfl⟩, hS.F ht⟩) hS.2.2 dX6_loop_62
      · skip
        have f_c3 := i_nle c3
        refine lv_aload_n hx hb dX6_loop_20 rfl (lv_at hl 2 rfl) ?_
        refine lv_iload_n hx hb dX6_loop_21 rfl (lv_at hl 3 rfl) ?_
        refine lv_iload_n hx hb dX6_loop_22 rfl (lv_at hl 3 rfl) ?_
        refine lv_iconst (v := 2) hx hb dX6_loop_23 (by decide) ?_
        refine lv_iadd hx hb dX6_loop_24 ?_
        refine lv_topi (fun z4 e_z4 => ?_)
        (first | have t_z4 := i_add e_z4 (by omega) (by omega) | skip)
        refine lv_iload_n hx hb dX6_loop_25 rfl (lv_at hl 4 rfl) ?_
        obtain ⟨hPc, hDc, hFc, hCm, hNw⟩ := C_s (wc := [eO h0 5 [.ref jb, .ref qm, .int mcL, .ref qh, .ref qk, .ref qf, .int bgL, .ref jp], eI qm km 60 fmL, eI qh kh 8 fhL, eR qk kk 9 fo, eI ro0 kr0 8 fr0L, eI ro1 kr1 8 fr1L, eI ro2 kr2 8 fr2L, eI ro3 kr3 8 fr3L, eI ro4 kr4 8 fr4L, eI ro5 kr5 8 fr5L, eI ro6 kr6 8 fr6L, eI ro7 kr7 8 fr7L, eI ro8 kr8 8 fr8L, eL qf kf 9 ffL, eO jb 0 [.ref aq0, .ref aq1, .ref aq2, .ref aq3, .ref aq4, .ref aq5, .ref aq6, .int aacc, .long afeesL, .int amisL, .int abelL, .int arefL, .int acauL], eI aq0 ak0 8 ag0, eI aq1 ak1 8 ag1L, eI aq2 ak2 8 ag2, eI aq3 ak3 8 ag3, eI aq4 ak4 8 ag4L, eI aq5 ak5 8 ag5L, eI aq6 ak6 8 ag6L, eO jp 2 [.ref pb, .ref pn, .int ps], eI pb kpb 80 fpb, eI pn kpn 80 fpn]) hP hD hS hA [(0, 22), (23, 2), (22, 1)] 25 rfl (by decide +kernel) rfl
        have hKc := K_s (tys' := [(km, .int), (kh, .int), (kk, .array .int), (kr0, .int), (kr1, .int), (kr2, .int), (kr3, .int), (kr4, .int), (kr5, .int), (kr6, .int), (kr7, .int), (kr8, .int), (kf, .long), (ak0, .int), (ak1, .int), (ak2, .int), (ak3, .boolean), (ak4, .int), (ak5, .int), (ak6, .int), (kpb, .int), (kpn, .int)]) hK [(0, 20), (21, 1), (20, 1)] rfl
        refine va_calli (va_runV (As := [.int p0, .int z4, .int dp]) (rest := []) ⟨hx, hb, hml, hown, hts⟩ (c_X6_inside l dC dI h0 p0 z4 dp jb qm mcL qh qk qf bgL jp km fmL kh fhL kk fo ro0 kr0 fr0L ro1 kr1 fr1L ro2 kr2 fr2L ro3 kr3 fr3L ro4 kr4 fr4L ro5 kr5 fr5L ro6 kr6 fr6L ro7 kr7 fr7L ro8 kr8 fr8L kf ffL aq0 aq1 aq2 aq3 aq4 aq5 aq6 aacc afeesL amisL abelL arefL acauL ak0 ag0 ak1 ag1L ak2 ag2 ak3 ag3 ak4 ag4L ak5 ag5L ak6 ag6L pb pn ps kpb fpb kpn fpn nd H.size ra1 ra2 hp1 hp2 hb0 hf0 hf1 hf2 hf3 hf4 hf5 hf6 hf7 hf8 (by first | assumption | omega) (by first | assumption | omega) (by first | assumption | omega) (by first | assumption | omega) pl1 pl2 (by first | assumption | omega) (by first | assumption | omega) hd0 hdn ih) (cwV 3 hts gX6_loop_X6_inside rfl rfl rfl (by decide +kernel) ⟨(show (10 * nd + 7) + 1 ≤ 10 * nd + 8 by omega), (show 8 + (4 + 11) + (200 * nd + 80) ≤ 200 * nd + 120 by omega)⟩) ⟨fun a U g mk q => by obtain ⟨q0, q1, qP, qK, qD⟩ := q; exact ⟨q0, q1, qP, va_K.moved (u := U) (U := U.calling g mk a) (Vm.Alike.refl U.vm) qK, qD⟩, va_recv (s := s) (q := (RX6, TX6, 8)) hKc hPc (ci := 5) (q0 := 0) rfl rfl, fun U hU hW => ⟨rfl, by rw [hU], by rw [hU]; exact hPc, va_K.moved hW.alike hKc, hDc.weaken (fun _ _ _ _ => trivial)⟩⟩ rfl rfl hl.1 rfl (lv_room (Nat.le_of_ble_eq_true rfl)) dX6_loop_26 ⟨Nat.le_of_ble_eq_true rfl, Nat.le_of_ble_eq_true rfl⟩) hS (fun q _ h => hFc q h) hFc (fun r5 u t H1 locs ht hvm hw hB hz1 hk1 hS => ?_)
        refine Exists.elim hB ?_; clear hB; intro q6 hB
        refine Exists.elim hB ?_; clear hB; intro q7 hB
        refine Exists.elim hB ?_; clear hB; intro q8 hB
        refine Exists.elim hB ?_; clear hB; intro q9 hB
        refine Exists.elim hB ?_; clear hB; intro q10 hB
        refine Exists.elim hB ?_; clear hB; intro q11 hB
        refine Exists.elim hB ?_; clear hB; intro q12 hB
        refine Exists.elim hB ?_; clear hB; intro q13 hB
        refine Exists.elim hB ?_; clear hB; intro q14 hB
        refine Exists.elim hB ?_; clear hB; intro q15 hB
        refine Exists.elim hB ?_; clear hB; intro q16 hB
        refine Exists.elim hB ?_; clear hB; intro q17 hB
        refine Exists.elim hB ?_; clear hB; intro q18 hB
        refine Exists.elim hB ?_; clear hB; intro q19 hB
        refine Exists.elim hB ?_; clear hB; intro q20 hB
        refine Exists.elim hB ?_; clear hB; intro q21 hB
        refine Exists.elim hB ?_; clear hB; intro q22 hB
        refine Exists.elim hB ?_; clear hB; intro q23 hB
        refine Exists.elim hB ?_; clear hB; intro q24 hB
        refine Exists.elim hB ?_; clear hB; intro q25 hB
        refine Exists.elim hB ?_; clear hB; intro q26 hB
        refine Exists.elim hB ?_; clear hB; intro q27 hB
        refine Exists.elim hB ?_; clear hB; intro q28 hB
        have x1_r5 := hB.1
        replace hB := hB.2
        have x2_r5 := hB.1
        replace hB := hB.2
        have x3_r5 := hB.1
        replace hB := hB.2
        have x4_r5 := hB.1
        replace hB := hB.2
        obtain ⟨hP1, hK1, hD1⟩ := hB
        rw [ht] at hP1
        have hK1 := va_K.moved hvm.symm hK1
        try dsimp only at hw
        obtain ⟨hP, hD⟩ := J_s (wL := [eO h0 5 [.ref jb, .ref qm, .int q18, .ref qh, .ref qk, .ref qf, .int q19, .ref jp], eI qm km 60 q6, eI qh kh 8 q7, eR qk kk 9 fo, eI ro0 kr0 8 q8, eI ro1 kr1 8 q9, eI ro2 kr2 8 q10, eI ro3 kr3 8 q11, eI ro4 kr4 8 q12, eI ro5 kr5 8 q13, eI ro6 kr6 8 q14, eI ro7 kr7 8 q15, eI ro8 kr8 8 q16, eL qf kf 9 q17, eO jb 0 [.ref aq0, .ref aq1, .ref aq2, .ref aq3, .ref aq4, .ref aq5, .ref aq6, .int aacc, .long q24, .int q25, .int q26, .int q27, .int q28], eI aq0 ak0 8 ag0, eI aq1 ak1 8 q20, eI aq2 ak2 8 ag2, eI aq3 ak3 8 ag3, eI aq4 ak4 8 q21, eI aq5 ak5 8 q22, eI aq6 ak6 8 q23, eO jp 2 [.ref pb, .ref pn, .int ps], eI pb kpb 80 fpb, eI pn kpn 80 fpn]) hP hD [(0, 22), (23, 2), (22, 1)] [] hCm hNw (by decide +kernel) hk1 hFc hP1 hD1 rfl
        have hK := KJ_s (tys' := [(km, .int), (kh, .int), (kk, .array .int), (kr0, .int), (kr1, .int), (kr2, .int), (kr3, .int), (kr4, .int), (kr5, .int), (kr6, .int), (kr7, .int), (kr8, .int), (kf, .long), (ak0, .int), (ak1, .int), (ak2, .int), (ak3, .boolean), (ak4, .int), (ak5, .int), (ak6, .int), (kpb, .int), (kpn, .int)]) hK hK1 [] rfl
        generalize H1 = H at hP hS ⊢
        refine lv_istore (lv' := [(5, .int r5), (4, .int tt), (3, .int r2), (0, .ref h0), (1, .int p0), (2, .int dp)]) hx hb dX6_loop_29 hl (by decide) rfl (fun ls hl => ?_)
        refine lv_iload hx hb dX6_loop_31 (lv_at hl 0 rfl) ?_
        refine lv_bipush (v := 6) hx hb dX6_loop_33 (by decide) ?_
        refine lv_icmp_ne (tgt := 40) hx hb dX6_loop_35 (by decide) (fun c29 => ?_) (fun c29 => ?_)
        · skip
          have f_c29 := i_ne c29
          refine lv_iload hx hb dX6_loop_40 (lv_at hl 0 rfl) ?_
          refine lv_if_eq (tgt := 55) hx hb dX6_loop_42 (by decide) (fun c30 => ?_) (fun c30 => ?_)
          · skip
            have f_c30 := i_eq c30
            obtain ⟨x31, e_x31⟩ : ∃ yy : Int32, yy = tt + 1 := ⟨_, rfl⟩
            refine lv_iinc (v := x31) (lv' := [(4, .int x31), (5, .int r5), (3, .int r2), (0, .ref h0), (1, .int p0), (2, .int dp)]) hx hb dX6_loop_55 hl (k := 1) rfl (by rw [e_x31]; rfl) (by decide) rfl (fun ls hl => ?_)
            (first | have t_x31 := i_add e_x31 (by omega) (by omega) | skip)
            refine lv_goto (tgt := 14) hx hb dX6_loop_58 (by decide) ?_
            exact ih_14 x31 q6 q7 q8 q9 q10 q11 q12 q13 q14 q15 q16 q17 q18 q19 q20 q21 q22 q23 q24 q25 q26 q27 q28 (by first | assumption | omega) (by first | assumption | omega) (by first | assumption | omega) (by first | assumption | omega) (by first | assumption | omega) (by omega) _ _ (K_s hK [(0, 20), (21, 1), (20, 1)] rfl) (P_s hP [(0, 22), (24, 1), (22, 2)] rfl) (D_s hD [(0, 22), (24, 1), (22, 2)] 25 rfl (by decide +kernel) rfl) hS ls (lv_sub hl [0, 2, 3, 4, 5] rfl)
          · skip
            have f_c30 := i_ne c30
            refine lv_iload hx hb dX6_loop_45 (lv_at hl 0 rfl) ?_
            refine lv_bipush (v := 7) hx hb dX6_loop_47 (by decide) ?_
            refine lv_icmp_eq (tgt := 55) hx hb dX6_loop_49 (by decide) (fun c32 => ?_) (fun c32 => ?_)
            · skip
              have f_c32 := i_eq c32
              obtain ⟨x33, e_x33⟩ : ∃ yy : Int32, yy = tt + 1 := ⟨_, rfl⟩
              refine lv_iinc (v := x33) (lv' := [(4, .int x33), (5, .int r5), (3, .int r2), (0, .ref h0), (1, .int p0), (2, .int dp)]) hx hb dX6_loop_55 hl (k := 1) rfl (by rw [e_x33]; rfl) (by decide) rfl (fun ls hl => ?_)
              (first | have t_x33 := i_add e_x33 (by omega) (by omega) | skip)
              refine lv_goto (tgt := 14) hx hb dX6_loop_58 (by decide) ?_
              exact ih_14 x33 q6 q7 q8 q9 q10 q11 q12 q13 q14 q15 q16 q17 q18 q19 q20 q21 q22 q23 q24 q25 q26 q27 q28 (by first | assumption | omega) (by first | assumption | omega) (by first | assumption | omega) (by first | assumption | omega) (by first | assumption | omega) (by omega) _ _ (K_s hK [(0, 20), (21, 1), (20, 1)] rfl) (P_s hP [(0, 22), (24, 1), (22, 2)] rfl) (D_s hD [(0, 22), (24, 1), (22, 2)] 25 rfl (by decide +kernel) rfl) hS ls (lv_sub hl [0, 2, 3, 4, 5] rfl)
            · skip
              have f_c32 := i_ne c32
              refine lv_iload hx hb dX6_loop_52 (lv_at hl 0 rfl) ?_
              rw [hQ9]
              exact W.iret (v := r5) hx hb hr (fun t ht hW => ⟨⟨r5, (), rfl, (by first | rfl | trivial), q6, q7, q8, q9, q10, q11, q12, q13, q14, q15, q16, q17, q18, q19, q20, q21, q22, q23, q24, q25, q26, q27, q28, (by first | assumption | omega), (by first | assumption | omega), (by first | assumption | omega), (by first | assumption | omega), by rw [ht]; exact hP, va_K.moved hW.alike hK, hD⟩, hS.F ht⟩) hS.2.2 dX6_loop_54
        · skip
          have f_c29 := i_eq c29
          refine lv_iconst (v := 0) hx hb dX6_loop_38 (by decide) ?_
          rw [hQ9]
          exact W.iret (v := 0) hx hb hr (fun t ht hW => ⟨⟨0, (), rfl, (by first | rfl | trivial), q6, q7, q8, q9, q10, q11, q12, q13, q14, q15, q16, q17, q18, q19, q20, q21, q22, q23, q24, q25, q26, q27, q28, (by first | assumption | omega), (by first | assumption | omega), (by first | assumption | omega), (by first | assumption | omega), by rw [ht]; exact hP, va_K.moved hW.alike hK, hD⟩, hS.F ht⟩) hS.2.2 dX6_loop_39
  exact loop_14 (3000000000) 0 fm fh fr0 fr1 fr2 fr3 fr4 fr5 fr6 fr7 fr8 ff mc bg ag1 ag4 ag5 ag6 afees amis abel aref acau (by first | assumption | omega) (by first | assumption | omega) (by first | assumption | omega) (by first | assumption | omega) (by first | assumption | omega) (by omega) _ _ hK hP hD hS ls (lv_sub hl [0, 1, 2, 3, 4] rfl)

set_option maxRecDepth 100000 in
set_option maxHeartbeats 4000000 in
/-- Runner.item -/
theorem c_X6_item (l : Launch) (dC : Nat → ClassId) (dI : Nat → Nat → Nat) (h0 : Nat) (p0 : Int32) (dp : Int32) (jb : Nat) (qm : Nat) (mc : Int32) (qh : Nat) (qk : Nat) (qf : Nat) (bg : Int32) (jp : Nat) (km : ClassId) (fm : Nat → Int32) (kh : ClassId) (fh : Nat → Int32) (kk : ClassId) (fo : Nat → Option Nat) (ro0 : Nat) (kr0 : ClassId) (fr0 : Nat → Int32) (ro1 : Nat) (kr1 : ClassId) (fr1 : Nat → Int32) (ro2 : Nat) (kr2 : ClassId) (fr2 : Nat → Int32) (ro3 : Nat) (kr3 : ClassId) (fr3 : Nat → Int32) (ro4 : Nat) (kr4 : ClassId) (fr4 : Nat → Int32) (ro5 : Nat) (kr5 : ClassId) (fr5 : Nat → Int32) (ro6 : Nat) (kr6 : ClassId) (fr6 : Nat → Int32) (ro7 : Nat) (kr7 : ClassId) (fr7 : Nat → Int32) (ro8 : Nat) (kr8 : ClassId) (fr8 : Nat → Int32) (kf : ClassId) (ff : Nat → Int64) (aq0 : Nat) (aq1 : Nat) (aq2 : Nat) (aq3 : Nat) (aq4 : Nat) (aq5 : Nat) (aq6 : Nat) (aacc : Int32) (afees : Int64) (amis : Int32) (abel : Int32) (aref : Int32) (acau : Int32) (ak0 : ClassId) (ag0 : Nat → Int32) (ak1 : ClassId) (ag1 : Nat → Int32) (ak2 : ClassId) (ag2 : Nat → Int32) (ak3 : ClassId) (ag3 : Nat → Int32) (ak4 : ClassId) (ag4 : Nat → Int32) (ak5 : ClassId) (ag5 : Nat → Int32) (ak6 : ClassId) (ag6 : Nat → Int32) (pb : Nat) (pn : Nat) (ps : Int32) (kpb : ClassId) (fpb : Nat → Int32) (kpn : ClassId) (fpn : Nat → Int32) (nd : Nat) (sz : Nat) (ra1 : 0 ≤ aacc.toInt) (ra2 : aacc.toInt ≤ 8) (hp1 : 0 ≤ ps.toInt) (hp2 : ps.toInt ≤ 80) (hb0 : ∀ k : Nat, 0 ≤ (fpn k).toInt ∧ (fpn k).toInt ≤ 80) (hf0 : fo 0 = some ro0) (hf1 : fo 1 = some ro1) (hf2 : fo 2 = some ro2) (hf3 : fo 3 = some ro3) (hf4 : fo 4 = some ro4) (hf5 : fo 5 = some ro5) (hf6 : fo 6 = some ro6) (hf7 : fo 7 = some ro7) (hf8 : fo 8 = some ro8) (rb1 : 0 ≤ bg.toInt) (rb2 : bg.toInt ≤ 500) (rb3 : 0 ≤ mc.toInt) (rb4 : mc.toInt + 2 * (500 - bg.toInt) ≤ 1100) (pl1 : 0 ≤ p0.toInt) (pl2 : p0.toInt ≤ 90) (hd0 : 0 ≤ dp.toInt) (hdn : dp.toInt + (nd : Int) = 8) (ih : ∀ m : Nat, m + 1 = nd → KI l dC dI m) : Met l yX6_item wsX6_item ({ frames := 10 * nd + 9, cells := 0, slots := 0, locals := 200 * nd + 160 }) (va_Pc [.ref h0, .int p0, .int dp] (fun U => U.heap.size = sz ∧ va_P (dC, dI) vwCl [eO h0 5 [.ref jb, .ref qm, .int mc, .ref qh, .ref qk, .ref qf, .int bg, .ref jp], eI qm km 60 fm, eI qh kh 8 fh, eR qk kk 9 fo, eI ro0 kr0 8 fr0, eI ro1 kr1 8 fr1, eI ro2 kr2 8 fr2, eI ro3 kr3 8 fr3, eI ro4 kr4 8 fr4, eI ro5 kr5 8 fr5, eI ro6 kr6 8 fr6, eI ro7 kr7 8 fr7, eI ro8 kr8 8 fr8, eL qf kf 9 ff, eO jb 0 [.ref aq0, .ref aq1, .ref aq2, .ref aq3, .ref aq4, .ref aq5, .ref aq6, .int aacc, .long afees, .int amis, .int abel, .int aref, .int acau], eI aq0 ak0 8 ag0, eI aq1 ak1 8 ag1, eI aq2 ak2 8 ag2, eI aq3 ak3 8 ag3, eI aq4 ak4 8 ag4, eI aq5 ak5 8 ag5, eI aq6 ak6 8 ag6, eO jp 2 [.ref pb, .ref pn, .int ps], eI pb kpb 80 fpb, eI pn kpn 80 fpn] U.heap ∧ va_K (dC, dI) vwCl [(km, .int), (kh, .int), (kk, .array .int), (kr0, .int), (kr1, .int), (kr2, .int), (kr3, .int), (kr4, .int), (kr5, .int), (kr6, .int), (kr7, .int), (kr8, .int), (kf, .long), (ak0, .int), (ak1, .int), (ak2, .int), (ak3, .boolean), (ak4, .int), (ak5, .int), (ak6, .int), (kpb, .int), (kpn, .int)] U ∧ va_D (fun _ => True) [eO h0 5 [.ref jb, .ref qm, .int mc, .ref qh, .ref qk, .ref qf, .int bg, .ref jp], eI qm km 60 fm, eI qh kh 8 fh, eR qk kk 9 fo, eI ro0 kr0 8 fr0, eI ro1 kr1 8 fr1, eI ro2 kr2 8 fr2, eI ro3 kr3 8 fr3, eI ro4 kr4 8 fr4, eI ro5 kr5 8 fr5, eI ro6 kr6 8 fr6, eI ro7 kr7 8 fr7, eI ro8 kr8 8 fr8, eL qf kf 9 ff, eO jb 0 [.ref aq0, .ref aq1, .ref aq2, .ref aq3, .ref aq4, .ref aq5, .ref aq6, .int aacc, .long afees, .int amis, .int abel, .int aref, .int acau], eI aq0 ak0 8 ag0, eI aq1 ak1 8 ag1, eI aq2 ak2 8 ag2, eI aq3 ak3 8 ag3, eI aq4 ak4 8 ag4, eI aq5 ak5 8 ag5, eI aq6 ak6 8 ag6, eO jp 2 [.ref pb, .ref pn, .int ps], eI pb kpb 80 fpb, eI pn kpn 80 fpn])) (va_Qi (fun (r : Int32) (_ : Unit) => True) (fun (_ : Unit) (t : State) => ∃ (fm' : Nat → Int32), ∃ (fh' : Nat → Int32), ∃ (fr0' : Nat → Int32), ∃ (fr1' : Nat → Int32), ∃ (fr2' : Nat → Int32), ∃ (fr3' : Nat → Int32), ∃ (fr4' : Nat → Int32), ∃ (fr5' : Nat → Int32), ∃ (fr6' : Nat → Int32), ∃ (fr7' : Nat → Int32), ∃ (fr8' : Nat → Int32), ∃ (ff' : Nat → Int64), ∃ (mc' : Int32), ∃ (bg' : Int32), ∃ (ag1' : Nat → Int32), ∃ (ag4' : Nat → Int32), ∃ (ag5' : Nat → Int32), ∃ (ag6' : Nat → Int32), ∃ (afees' : Int64), ∃ (amis' : Int32), ∃ (abel' : Int32), ∃ (aref' : Int32), ∃ (acau' : Int32), (bg.toInt ≤ bg'.toInt) ∧ (bg'.toInt ≤ 500) ∧ (0 ≤ mc'.toInt) ∧ (mc'.toInt + 2 * (500 - bg'.toInt) ≤ mc.toInt + 2 * (500 - bg.toInt) + 0) ∧ va_P (dC, dI) vwCl [eO h0 5 [.ref jb, .ref qm, .int mc', .ref qh, .ref qk, .ref qf, .int bg', .ref jp], eI qm km 60 (fm'), eI qh kh 8 (fh'), eR qk kk 9 fo, eI ro0 kr0 8 (fr0'), eI ro1 kr1 8 (fr1'), eI ro2 kr2 8 (fr2'), eI ro3 kr3 8 (fr3'), eI ro4 kr4 8 (fr4'), eI ro5 kr5 8 (fr5'), eI ro6 kr6 8 (fr6'), eI ro7 kr7 8 (fr7'), eI ro8 kr8 8 (fr8'), eL qf kf 9 (ff'), eO jb 0 [.ref aq0, .ref aq1, .ref aq2, .ref aq3, .ref aq4, .ref aq5, .ref aq6, .int aacc, .long afees', .int amis', .int abel', .int aref', .int acau'], eI aq0 ak0 8 ag0, eI aq1 ak1 8 (ag1'), eI aq2 ak2 8 ag2, eI aq3 ak3 8 ag3, eI aq4 ak4 8 (ag4'), eI aq5 ak5 8 (ag5'), eI aq6 ak6 8 (ag6'), eO jp 2 [.ref pb, .ref pn, .int ps], eI pb kpb 80 fpb, eI pn kpn 80 fpn] t.heap ∧ va_K (dC, dI) vwCl [(km, .int), (kh, .int), (kk, .array .int), (kr0, .int), (kr1, .int), (kr2, .int), (kr3, .int), (kr4, .int), (kr5, .int), (kr6, .int), (kr7, .int), (kr8, .int), (kf, .long), (ak0, .int), (ak1, .int), (ak2, .int), (ak3, .boolean), (ak4, .int), (ak5, .int), (ak6, .int), (kpb, .int), (kpn, .int)] t ∧ va_D (va_A [eO h0 5 [.ref jb, .ref qm, .int mc, .ref qh, .ref qk, .ref qf, .int bg, .ref jp], eI qm km 60 fm, eI qh kh 8 fh, eR qk kk 9 fo, eI ro0 kr0 8 fr0, eI ro1 kr1 8 fr1, eI ro2 kr2 8 fr2, eI ro3 kr3 8 fr3, eI ro4 kr4 8 fr4, eI ro5 kr5 8 fr5, eI ro6 kr6 8 fr6, eI ro7 kr7 8 fr7, eI ro8 kr8 8 fr8, eL qf kf 9 ff, eO jb 0 [.ref aq0, .ref aq1, .ref aq2, .ref aq3, .ref aq4, .ref aq5, .ref aq6, .int aacc, .long afees, .int amis, .int abel, .int aref, .int acau], eI aq0 ak0 8 ag0, eI aq1 ak1 8 ag1, eI aq2 ak2 8 ag2, eI aq3 ak3 8 ag3, eI aq4 ak4 8 ag4, eI aq5 ak5 8 ag5, eI aq6 ak6 8 ag6, eO jp 2 [.ref pb, .ref pn, .int ps], eI pb kpb 80 fpb, eI pn kpn 80 fpn] sz) [eO h0 5 [.ref jb, .ref qm, .int mc', .ref qh, .ref qk, .ref qf, .int bg', .ref jp], eI qm km 60 (fm'), eI qh kh 8 (fh'), eR qk kk 9 fo, eI ro0 kr0 8 (fr0'), eI ro1 kr1 8 (fr1'), eI ro2 kr2 8 (fr2'), eI ro3 kr3 8 (fr3'), eI ro4 kr4 8 (fr4'), eI ro5 kr5 8 (fr5'), eI ro6 kr6 8 (fr6'), eI ro7 kr7 8 (fr7'), eI ro8 kr8 8 (fr8'), eL qf kf 9 (ff'), eO jb 0 [.ref aq0, .ref aq1, .ref aq2, .ref aq3, .ref aq4, .ref aq5, .ref aq6, .int aacc, .long afees', .int amis', .int abel', .int aref', .int acau'], eI aq0 ak0 8 ag0, eI aq1 ak1 8 (ag1'), eI aq2 ak2 8 ag2, eI aq3 ak3 8 ag3, eI aq4 ak4 8 (ag4'), eI aq5 ak5 8 (ag5'), eI aq6 ak6 8 (ag6'), eO jp 2 [.ref pb, .ref pn, .int ps], eI pb kpb 80 fpb, eI pn kpn 80 fpn]) (va_A [eO h0 5 [.ref jb, .ref qm, .int mc, .ref qh, .ref qk, .ref qf, .int bg, .ref jp], eI qm km 60 fm, eI qh kh 8 fh, eR qk kk 9 fo, eI ro0 kr0 8 fr0, eI ro1 kr1 8 fr1, eI ro2 kr2 8 fr2, eI ro3 kr3 8 fr3, eI ro4 kr4 8 fr4, eI ro5 kr5 8 fr5, eI ro6 kr6 8 fr6, eI ro7 kr7 8 fr7, eI ro8 kr8 8 fr8, eL qf kf 9 ff, eO jb 0 [.ref aq0, .ref aq1, .ref aq2, .ref aq3, .ref aq4, .ref aq5, .ref aq6, .int aacc, .long afees, .int amis, .int abel, .int aref, .int acau], eI aq0 ak0 8 ag0, eI aq1 ak1 8 ag1, eI aq2 ak2 8 ag2, eI aq3 ak3 8 ag3, eI aq4 ak4 8 ag4, eI aq5 ak5 8 ag5, eI aq6 ak6 8 ag6, eO jp 2 [.ref pb, .ref pn, .int ps], eI pb kpb 80 fpb, eI pn kpn 80 fpn] sz)) 0 0 (va_A [eO h0 5 [.ref jb, .ref qm, .int mc, .ref qh, .ref qk, .ref qf, .int bg, .ref jp], eI qm km 60 fm, eI qh kh 8 fh, eR qk kk 9 fo, eI ro0 kr0 8 fr0, eI ro1 kr1 8 fr1, eI ro2 kr2 8 fr2, eI ro3 kr3 8 fr3, eI ro4 kr4 8 fr4, eI ro5 kr5 8 fr5, eI ro6 kr6 8 fr6, eI ro7 kr7 8 fr7, eI ro8 kr8 8 fr8, eL qf kf 9 ff, eO jb 0 [.ref aq0, .ref aq1, .ref aq2, .ref aq3, .ref aq4, .ref aq5, .ref aq6, .int aacc, .long afees, .int amis, .int abel, .int aref, .int acau], eI aq0 ak0 8 ag0, eI aq1 ak1 8 ag1, eI aq2 ak2 8 ag2, eI aq3 ak3 8 ag3, eI aq4 ak4 8 ag4, eI aq5 ak5 8 ag5, eI aq6 ak6 8 ag6, eO jp 2 [.ref pb, .ref pn, .int ps], eI pb kpb 80 fpb, eI pn kpn 80 fpn] sz) := by
  refine Met.ofW (cc := cX6_item) (maxL := 3) (ret := (some .int)) (by decide) rfl ?_
  intro p e s m args below meth c s₁ B hml hv
  obtain ⟨rfl, hsz, hP, hK, hD0⟩ := hv
  have hx := B.exec
  have hb := B.bytes
  have hr := B.returns
  have hts := atoms_spec (ws := wsX6_item) B.pre
  have hown : s.vm.findClass RX6 = some m.cls := findClass_of_methodNamed B.named
  have hlocks := B.notSynchronized
  subst hsz
  have hD := hD0.self (sz := s.heap.size)
  generalize hAe : va_A [eO h0 5 [.ref jb, .ref qm, .int mc, .ref qh, .ref qk, .ref qf, .int bg, .ref jp], eI qm km 60 fm, eI qh kh 8 fh, eR qk kk 9 fo, eI ro0 kr0 8 fr0, eI ro1 kr1 8 fr1, eI ro2 kr2 8 fr2, eI ro3 kr3 8 fr3, eI ro4 kr4 8 fr4, eI ro5 kr5 8 fr5, eI ro6 kr6 8 fr6, eI ro7 kr7 8 fr7, eI ro8 kr8 8 fr8, eL qf kf 9 ff, eO jb 0 [.ref aq0, .ref aq1, .ref aq2, .ref aq3, .ref aq4, .ref aq5, .ref aq6, .int aacc, .long afees, .int amis, .int abel, .int aref, .int acau], eI aq0 ak0 8 ag0, eI aq1 ak1 8 ag1, eI aq2 ak2 8 ag2, eI aq3 ak3 8 ag3, eI aq4 ak4 8 ag4, eI aq5 ak5 8 ag5, eI aq6 ak6 8 ag6, eO jp 2 [.ref pb, .ref pn, .int ps], eI pb kpb 80 fpb, eI pn kpn 80 fpn] s.heap.size = A at hD ⊢
  have hA : ∀ q : Nat, s.heap.size ≤ q → A q := fun q h => by rw [← hAe]; exact Or.inr h
  have hS : va_S A s.heap s.heap [] := va_S.rf
  have hP : va_P (dC, dI) vwCl [eO h0 5 [.ref jb, .ref qm, .int mc, .ref qh, .ref qk, .ref qf, .int bg, .ref jp], eI qm km 60 fm, eI qh kh 8 fh, eR qk kk 9 fo, eI ro0 kr0 8 fr0, eI ro1 kr1 8 fr1, eI ro2 kr2 8 fr2, eI ro3 kr3 8 fr3, eI ro4 kr4 8 fr4, eI ro5 kr5 8 fr5, eI ro6 kr6 8 fr6, eI ro7 kr7 8 fr7, eI ro8 kr8 8 fr8, eL qf kf 9 ff, eO jb 0 [.ref aq0, .ref aq1, .ref aq2, .ref aq3, .ref aq4, .ref aq5, .ref aq6, .int aacc, .long afees, .int amis, .int abel, .int aref, .int acau], eI aq0 ak0 8 ag0, eI aq1 ak1 8 ag1, eI aq2 ak2 8 ag2, eI aq3 ak3 8 ag3, eI aq4 ak4 8 ag4, eI aq5 ak5 8 ag5, eI aq6 ak6 8 ag6, eO jp 2 [.ref pb, .ref pn, .int ps], eI pb kpb 80 fpb, eI pn kpn 80 fpn] s.heap := hP
  have hl := lv_entry ([.ref h0, .int p0, .int dp]) (n := 3) (Nat.le_of_ble_eq_true rfl)
  rw [lg_entry_eq]
  generalize (lg_sl ([.ref h0, .int p0, .int dp]) ++ List.replicate (3 - (lg_sl ([.ref h0, .int p0, .int dp])).length) Slot.unset).toArray = ls at hl ⊢
  have hl : lv_has ls 3 [(0, .ref h0), (1, .int p0), (2, .int dp)] := hl
  suffices key9 : ∀ Q9 : State → Prop, Q9 = (MQ below (va_Qi (fun (r : Int32) (_ : Unit) => True) (fun (_ : Unit) (t : State) => ∃ (fm' : Nat → Int32), ∃ (fh' : Nat → Int32), ∃ (fr0' : Nat → Int32), ∃ (fr1' : Nat → Int32), ∃ (fr2' : Nat → Int32), ∃ (fr3' : Nat → Int32), ∃ (fr4' : Nat → Int32), ∃ (fr5' : Nat → Int32), ∃ (fr6' : Nat → Int32), ∃ (fr7' : Nat → Int32), ∃ (fr8' : Nat → Int32), ∃ (ff' : Nat → Int64), ∃ (mc' : Int32), ∃ (bg' : Int32), ∃ (ag1' : Nat → Int32), ∃ (ag4' : Nat → Int32), ∃ (ag5' : Nat → Int32), ∃ (ag6' : Nat → Int32), ∃ (afees' : Int64), ∃ (amis' : Int32), ∃ (abel' : Int32), ∃ (aref' : Int32), ∃ (acau' : Int32), (bg.toInt ≤ bg'.toInt) ∧ (bg'.toInt ≤ 500) ∧ (0 ≤ mc'.toInt) ∧ (mc'.toInt + 2 * (500 - bg'.toInt) ≤ mc.toInt + 2 * (500 - bg.toInt) + 0) ∧ va_P (dC, dI) vwCl [eO h0 5 [.ref jb, .ref qm, .int mc', .ref qh, .ref qk, .ref qf, .int bg', .ref jp], eI qm km 60 (fm'), eI qh kh 8 (fh'), eR qk kk 9 fo, eI ro0 kr0 8 (fr0'), eI ro1 kr1 8 (fr1'), eI ro2 kr2 8 (fr2'), eI ro3 kr3 8 (fr3'), eI ro4 kr4 8 (fr4'), eI ro5 kr5 8 (fr5'), eI ro6 kr6 8 (fr6'), eI ro7 kr7 8 (fr7'), eI ro8 kr8 8 (fr8'), eL qf kf 9 (ff'), eO jb 0 [.ref aq0, .ref aq1, .ref aq2, .ref aq3, .ref aq4, .ref aq5, .ref aq6, .int aacc, .long afees', .int amis', .int abel', .int aref', .int acau'], eI aq0 ak0 8 ag0, eI aq1 ak1 8 (ag1'), eI aq2 ak2 8 ag2, eI aq3 ak3 8 ag3, eI aq4 ak4 8 (ag4'), eI aq5 ak5 8 (ag5'), eI aq6 ak6 8 (ag6'), eO jp 2 [.ref pb, .ref pn, .int ps], eI pb kpb 80 fpb, eI pn kpn 80 fpn] t.heap ∧ va_K (dC, dI) vwCl [(km, .int), (kh, .int), (kk, .array .int), (kr0, .int), (kr1, .int), (kr2, .int), (kr3, .int), (kr4, .int), (kr5, .int), (kr6, .int), (kr7, .int), (kr8, .int), (kf, .long), (ak0, .int), (ak1, .int), (ak2, .int), (ak3, .boolean), (ak4, .int), (ak5, .int), (ak6, .int), (kpb, .int), (kpn, .int)] t ∧ va_D A [eO h0 5 [.ref jb, .ref qm, .int mc', .ref qh, .ref qk, .ref qf, .int bg', .ref jp], eI qm km 60 (fm'), eI qh kh 8 (fh'), eR qk kk 9 fo, eI ro0 kr0 8 (fr0'), eI ro1 kr1 8 (fr1'), eI ro2 kr2 8 (fr2'), eI ro3 kr3 8 (fr3'), eI ro4 kr4 8 (fr4'), eI ro5 kr5 8 (fr5'), eI ro6 kr6 8 (fr6'), eI ro7 kr7 8 (fr7'), eI ro8 kr8 8 (fr8'), eL qf kf 9 (ff'), eO jb 0 [.ref aq0, .ref aq1, .ref aq2, .ref aq3, .ref aq4, .ref aq5, .ref aq6, .int aacc, .long afees', .int amis', .int abel', .int aref', .int acau'], eI aq0 ak0 8 ag0, eI aq1 ak1 8 (ag1'), eI aq2 ak2 8 ag2, eI aq3 ak3 8 ag3, eI aq4 ak4 8 (ag4'), eI aq5 ak5 8 (ag5'), eI aq6 ak6 8 (ag6'), eO jp 2 [.ref pb, .ref pn, .int ps], eI pb kpb 80 fpb, eI pn kpn 80 fpn]) A) (([.ref h0, .int p0, .int dp] : List Value).toArray) s 0 0 A) → W p l e ({ frames := 10 * nd + 9, cells := 0, slots := 0, locals := 200 * nd + 160 }) s m (([.ref h0, .int p0, .int dp] : List Value).toArray) below meth c s.heap [] 0 0 Q9 (F0 m 0 ls []) from key9 _ rfl
  intro Q9 hQ9
  have k_0 : (0 : Int32).toInt = 0 := by decide
  have k_1 : (1 : Int32).toInt = 1 := by decide
  have k_2 : (2 : Int32).toInt = 2 := by decide
  have k_4 : (4 : Int32).toInt = 4 := by decide
  have k_5 : (5 : Int32).toInt = 5 := by decide
  have k_6 : (6 : Int32).toInt = 6 := by decide
  have k_7 : (7 : Int32).toInt = 7 := by decide
  have k_40 : (40 : Int32).toInt = 40 := by decide
  have k_60 : (60 : Int32).toInt = 60 := by decide
  have k_91 : (91 : Int32).toInt = 91 := by decide
  have k_97 : (97 : Int32).toInt = 97 := by decide
  have k_98 : (98 : Int32).toInt = 98 := by decide
  have k_99 : (99 : Int32).toInt = 99 := by decide
  have k_110 : (110 : Int32).toInt = 110 := by decide
  have k_112 : (112 : Int32).toInt = 112 := by decide
  have k_120 : (120 : Int32).toInt = 120 := by decide
  have k_123 : (123 : Int32).toInt = 123 := by decide
  have k_500 : (500 : Int32).toInt = 500 := by decide
  refine lv_aload_n hx hb dX6_item_0 rfl (lv_at hl 0 rfl) ?_
  refine va_get (D := (dC, dI)) (ci := 5) (v := .int bg) (C := RX6) (T := TX6) (N := 8) hx hb hts (fun w h => List.mem_cons_of_mem _ (inlX6 w h)) hown hK hP 0 rfl rfl 6 (by decide) (hts (.fieldLink RX6 45 "ClearingGates$Runner" "begun" "I") (List.mem_cons_of_mem _ mw_194)) (fun _ h9 => h9) rfl dX6_item_1 ?_
  refine lv_sipush (v := 500) hx hb dX6_item_4 (by decide) ?_
  refine lv_icmp_lt (tgt := 12) hx hb dX6_item_7 (by decide) (fun c1 => ?_) (fun c1 => ?_)
  · skip
    have f_c1 := i_lt c1
    refine lv_aload_n hx hb dX6_item_12 rfl (lv_at hl 0 rfl) ?_
    refine lv_dup hx hb dX6_item_13 rfl ?_
    refine va_get (D := (dC, dI)) (ci := 5) (v := .int bg) (C := RX6) (T := TX6) (N := 8) hx hb hts (fun w h => List.mem_cons_of_mem _ (inlX6 w h)) hown hK hP 0 rfl rfl 6 (by decide) (hts (.fieldLink RX6 45 "ClearingGates$Runner" "begun" "I") (List.mem_cons_of_mem _ mw_194)) (fun _ h9 => h9) rfl dX6_item_14 ?_
    refine lv_iconst (v := 1) hx hb dX6_item_17 (by decide) ?_
    refine lv_iadd hx hb dX6_item_18 ?_
    refine lv_topi (fun z2 e_z2 => ?_)
    (first | have t_z2 := i_add e_z2 (by omega) (by omega) | skip)
    refine va_put (D := (dC, dI)) (ci := 5) (v := .int z2) (ty := .int) (C := RX6) (T := TX6) (N := 8) hx hb hts (fun w h => List.mem_cons_of_mem _ (inlX6 w h)) tyX6 tyX6_ok nmX6 hown hK hP hD hS 0 rfl rfl 6 (by decide) (hts (.fieldLink RX6 45 "ClearingGates$Runner" "begun" "I") (List.mem_cons_of_mem _ mw_194)) (fun _ h9 => h9) rfl (by decide +kernel) rfl rfl (Nat.le_of_ble_eq_true rfl) dX6_item_19 (fun H locs hP hD hS => ?_)
    obtain ⟨hP, hD⟩ := X_s (ws' := [eO h0 5 [.ref jb, .ref qm, .int mc, .ref qh, .ref qk, .ref qf, .int z2, .ref jp], eI qm km 60 fm, eI qh kh 8 fh, eR qk kk 9 fo, eI ro0 kr0 8 fr0, eI ro1 kr1 8 fr1, eI ro2 kr2 8 fr2, eI ro3 kr3 8 fr3, eI ro4 kr4 8 fr4, eI ro5 kr5 8 fr5, eI ro6 kr6 8 fr6, eI ro7 kr7 8 fr7, eI ro8 kr8 8 fr8, eL qf kf 9 ff, eO jb 0 [.ref aq0, .ref aq1, .ref aq2, .ref aq3, .ref aq4, .ref aq5, .ref aq6, .int aacc, .long afees, .int amis, .int abel, .int aref, .int acau], eI aq0 ak0 8 ag0, eI aq1 ak1 8 ag1, eI aq2 ak2 8 ag2, eI aq3 ak3 8 ag3, eI aq4 ak4 8 ag4, eI aq5 ak5 8 ag5, eI aq6 ak6 8 ag6, eO jp 2 [.ref pb, .ref pn, .int ps], eI pb kpb 80 fpb, eI pn kpn 80 fpn]) hP hD rfl
    refine lv_aload_n hx hb dX6_item_22 rfl (lv_at hl 0 rfl) ?_
    refine va_get (D := (dC, dI)) (ci := 5) (v := .ref jp) (C := RX6) (T := TX6) (N := 8) hx hb hts (fun w h => List.mem_cons_of_mem _ (inlX6 w h)) hown hK hP 0 rfl rfl 7 (by decide) (hts (.fieldLink RX6 41 "ClearingGates$Runner" "program" "LClearingGates$Program;") (List.mem_cons_of_mem _ mw_195)) (fun _ h9 => h9) rfl dX6_item_23 ?_
    refine lv_iload_n hx hb dX6_item_26 rfl (lv_at hl 1 rfl) ?_
    obtain ⟨hPc, hDc, hFc, hCm, hNw⟩ := C_s (wc := [eO jp 2 [.ref pb, .ref pn, .int ps], eI pb kpb 80 fpb]) hP hD hS hA [(22, 2)] 25 rfl (by decide +kernel) rfl
    have hKc := K_s (tys' := [(kpb, .int)]) hK [(20, 1)] rfl
    refine va_calli (va_runV (As := [.int p0]) (rest := []) ⟨hx, hb, hml, hown, hts⟩ (c_X3_byteAt l dC dI jp p0 pb pn ps kpb fpb H.size hp1 hp2) (cwV 1 hts gX6_item_X3_byteAt rfl rfl rfl (by decide +kernel) ⟨(show (0) + 1 ≤ 10 * nd + 9 by omega), (show 8 + (2 + 11) + (0) ≤ 200 * nd + 160 by omega)⟩) ⟨fun a U g mk q => by obtain ⟨q0, q1, qP, qK, qD⟩ := q; exact ⟨q0, q1, qP, va_K.moved (u := U) (U := U.calling g mk a) (Vm.Alike.refl U.vm) qK, qD⟩, va_recv (s := s) (q := (RX3, TX3, 3)) hKc hPc (ci := 2) (q0 := 0) rfl rfl, fun U hU hW => ⟨rfl, by rw [hU], by rw [hU]; exact hPc, va_K.moved hW.alike hKc, hDc.weaken (fun _ _ _ _ => trivial)⟩⟩ rfl rfl hl.1 rfl (lv_room (Nat.le_of_ble_eq_true rfl)) dX6_item_27 ⟨Nat.le_of_ble_eq_true rfl, Nat.le_of_ble_eq_true rfl⟩) hS (fun q _ h => hFc q h) hFc (fun r3 u t H1 locs ht hvm hw hB hz1 hk1 hS => ?_)
    obtain ⟨hP1, hK1, hD1⟩ := hB
    rw [ht] at hP1
    have hK1 := va_K.moved hvm.symm hK1
    try dsimp only at hw
    obtain ⟨hP, hD⟩ := J_s (wL := [eO h0 5 [.ref jb, .ref qm, .int mc, .ref qh, .ref qk, .ref qf, .int z2, .ref jp], eI qm km 60 fm, eI qh kh 8 fh, eR qk kk 9 fo, eI ro0 kr0 8 fr0, eI ro1 kr1 8 fr1, eI ro2 kr2 8 fr2, eI ro3 kr3 8 fr3, eI ro4 kr4 8 fr4, eI ro5 kr5 8 fr5, eI ro6 kr6 8 fr6, eI ro7 kr7 8 fr7, eI ro8 kr8 8 fr8, eL qf kf 9 ff, eO jb 0 [.ref aq0, .ref aq1, .ref aq2, .ref aq3, .ref aq4, .ref aq5, .ref aq6, .int aacc, .long afees, .int amis, .int abel, .int aref, .int acau], eI aq0 ak0 8 ag0, eI aq1 ak1 8 ag1, eI aq2 ak2 8 ag2, eI aq3 ak3 8 ag3, eI aq4 ak4 8 ag4, eI aq5 ak5 8 ag5, eI aq6 ak6 8 ag6, eI pn kpn 80 fpn, eO jp 2 [.ref pb, .ref pn, .int ps], eI pb kpb 80 fpb]) hP hD [(22, 2)] [(0, 22), (24, 1)] hCm hNw (by decide +kernel) hk1 hFc hP1 hD1 rfl
    have hK := KJ_s (tys' := [(km, .int), (kh, .int), (kk, .array .int), (kr0, .int), (kr1, .int), (kr2, .int), (kr3, .int), (kr4, .int), (kr5, .int), (kr6, .int), (kr7, .int), (kr8, .int), (kf, .long), (ak0, .int), (ak1, .int), (ak2, .int), (ak3, .boolean), (ak4, .int), (ak5, .int), (ak6, .int), (kpn, .int), (kpb, .int)]) hK hK1 [(0, 20), (21, 1)] rfl
    generalize H1 = H at hP hS ⊢
    have h_r3 := hw
    rcases Decidable.em (r3 = 40) with c4 | c4
    · refine lv_lookup (off := 90) (tgt := 120) hx hb dX6_item_30 (by decide) (by rw [c4]; decide) (by decide) ?_
      have f_c4 := i_eq c4
      refine lv_aload_n hx hb dX6_item_120 rfl (lv_at hl 0 rfl) ?_
      refine lv_iload_n hx hb dX6_item_121 rfl (lv_at hl 1 rfl) ?_
      refine lv_iload_n hx hb dX6_item_122 rfl (lv_at hl 2 rfl) ?_
      obtain ⟨hPc, hDc, hFc, hCm, hNw⟩ := C_s (wc := [eO h0 5 [.ref jb, .ref qm, .int mc, .ref qh, .ref qk, .ref qf, .int z2, .ref jp], eI qm km 60 fm, eI qh kh 8 fh, eR qk kk 9 fo, eI ro0 kr0 8 fr0, eI ro1 kr1 8 fr1, eI ro2 kr2 8 fr2, eI ro3 kr3 8 fr3, eI ro4 kr4 8 fr4, eI ro5 kr5 8 fr5, eI ro6 kr6 8 fr6, eI ro7 kr7 8 fr7, eI ro8 kr8 8 fr8, eL qf kf 9 ff, eO jb 0 [.ref aq0, .ref aq1, .ref aq2, .ref aq3, .ref aq4, .ref aq5, .ref aq6, .int aacc, .long afees, .int amis, .int abel, .int aref, .int acau], eI aq0 ak0 8 ag0, eI aq1 ak1 8 ag1, eI aq2 ak2 8 ag2, eI aq3 ak3 8 ag3, eI aq4 ak4 8 ag4, eI aq5 ak5 8 ag5, eI aq6 ak6 8 ag6, eO jp 2 [.ref pb, .ref pn, .int ps], eI pb kpb 80 fpb, eI pn kpn 80 fpn]) hP hD hS hA [(0, 22), (23, 2), (22, 1)] 25 rfl (by decide +kernel) rfl
      have hKc := K_s (tys' := [(km, .int), (kh, .int), (kk, .array .int), (kr0, .int), (kr1, .int), (kr2, .int), (kr3, .int), (kr4, .int), (kr5, .int), (kr6, .int), (kr7, .int), (kr8, .int), (kf, .long), (ak0, .int), (ak1, .int), (ak2, .int), (ak3, .boolean), (ak4, .int), (ak5, .int), (ak6, .int), (kpb, .int), (kpn, .int)]) hK [(0, 20), (21, 1), (20, 1)] rfl
      refine va_calli (va_runV (As := [.int p0, .int dp]) (rest := []) ⟨hx, hb, hml, hown, hts⟩ (c_X6_block l dC dI h0 p0 dp jb qm mc qh qk qf z2 jp km fm kh fh kk fo ro0 kr0 fr0 ro1 kr1 fr1 ro2 kr2 fr2 ro3 kr3 fr3 ro4 kr4 fr4 ro5 kr5 fr5 ro6 kr6 fr6 ro7 kr7 fr7 ro8 kr8 fr8 kf ff aq0 aq1 aq2 aq3 aq4 aq5 aq6 aacc afees amis abel aref acau ak0 ag0 ak1 ag1 ak2 ag2 ak3 ag3 ak4 ag4 ak5 ag5 ak6 ag6 pb pn ps kpb fpb kpn fpn nd H.size ra1 ra2 hp1 hp2 hb0 hf0 hf1 hf2 hf3 hf4 hf5 hf6 hf7 hf8 (by first | assumption | omega) (by first | assumption | omega) rb3 (by first | assumption | omega) pl1 pl2 hd0 hdn ih) (cwV 2 hts gX6_item_X6_block rfl rfl rfl (by decide +kernel) ⟨(show (10 * nd + 8) + 1 ≤ 10 * nd + 9 by omega), (show 8 + (5 + 11) + (200 * nd + 120) ≤ 200 * nd + 160 by omega)⟩) ⟨fun a U g mk q => by obtain ⟨q0, q1, qP, qK, qD⟩ := q; exact ⟨q0, q1, qP, va_K.moved (u := U) (U := U.calling g mk a) (Vm.Alike.refl U.vm) qK, qD⟩, va_recv (s := s) (q := (RX6, TX6, 8)) hKc hPc (ci := 5) (q0 := 0) rfl rfl, fun U hU hW => ⟨rfl, by rw [hU], by rw [hU]; exact hPc, va_K.moved hW.alike hKc, hDc.weaken (fun _ _ _ _ => trivial)⟩⟩ rfl rfl hl.1 rfl (lv_room (Nat.le_of_ble_eq_true rfl)) dX6_item_123 ⟨Nat.le_of_ble_eq_true rfl, Nat.le_of_ble_eq_true rfl⟩) hS (fun q _ h => hFc q h) hFc (fun r5 u t H1 locs ht hvm hw hB hz1 hk1 hS => ?_)
      refine Exists.elim hB ?_; clear hB; intro q6 hB
      refine Exists.elim hB ?_; clear hB; intro q7 hB
      refine Exists.elim hB ?_; clear hB; intro q8 hB
      refine Exists.elim hB ?_; clear hB; intro q9 hB
      refine Exists.elim hB ?_; clear hB; intro q10 hB
      refine Exists.elim hB ?_; clear hB; intro q11 hB
      refine Exists.elim hB ?_; clear hB; intro q12 hB
      refine Exists.elim hB ?_; clear hB; intro q13 hB
      refine Exists.elim hB ?_; clear hB; intro q14 hB
      refine Exists.elim hB ?_; clear hB; intro q15 hB
      refine Exists.elim hB ?_; clear hB; intro q16 hB
      refine Exists.elim hB ?_; clear hB; intro q17 hB
      refine Exists.elim hB ?_; clear hB; intro q18 hB
      refine Exists.elim hB ?_; clear hB; intro q19 hB
      refine Exists.elim hB ?_; clear hB; intro q20 hB
      refine Exists.elim hB ?_; clear hB; intro q21 hB
      refine Exists.elim hB ?_; clear hB; intro q22 hB
      refine Exists.elim hB ?_; clear hB; intro q23 hB
      refine Exists.elim hB ?_; clear hB; intro q24 hB
      refine Exists.elim hB ?_; clear hB; intro q25 hB
      refine Exists.elim hB ?_; clear hB; intro q26 hB
      refine Exists.elim hB ?_; clear hB; intro q27 hB
      refine Exists.elim hB ?_; clear hB; intro q28 hB
      have x1_r5 := hB.1
      replace hB := hB.2
      have x2_r5 := hB.1
      replace hB := hB.2
      have x3_r5 := hB.1
      replace hB := hB.2
      have x4_r5 := hB.1
      replace hB := hB.2
      obtain ⟨hP1, hK1, hD1⟩ := hB
      rw [ht] at hP1
      have hK1 := va_K.moved hvm.symm hK1
      try dsimp only at hw
      obtain ⟨hP, hD⟩ := J_s (wL := [eO h0 5 [.ref jb, .ref qm, .int q18, .ref qh, .ref qk, .ref qf, .int q19, .ref jp], eI qm km 60 q6, eI qh kh 8 q7, eR qk kk 9 fo, eI ro0 kr0 8 q8, eI ro1 kr1 8 q9, eI ro2 kr2 8 q10, eI ro3 kr3 8 q11, eI ro4 kr4 8 q12, eI ro5 kr5 8 q13, eI ro6 kr6 8 q14, eI ro7 kr7 8 q15, eI ro8 kr8 8 q16, eL qf kf 9 q17, eO jb 0 [.ref aq0, .ref aq1, .ref aq2, .ref aq3, .ref aq4, .ref aq5, .ref aq6, .int aacc, .long q24, .int q25, .int q26, .int q27, .int q28], eI aq0 ak0 8 ag0, eI aq1 ak1 8 q20, eI aq2 ak2 8 ag2, eI aq3 ak3 8 ag3, eI aq4 ak4 8 q21, eI aq5 ak5 8 q22, eI aq6 ak6 8 q23, eO jp 2 [.ref pb, .ref pn, .int ps], eI pb kpb 80 fpb, eI pn kpn 80 fpn]) hP hD [(0, 22), (23, 2), (22, 1)] [] hCm hNw (by decide +kernel) hk1 hFc hP1 hD1 rfl
      have hK := KJ_s (tys' := [(km, .int), (kh, .int), (kk, .array .int), (kr0, .int), (kr1, .int), (kr2, .int), (kr3, .int), (kr4, .int), (kr5, .int), (kr6, .int), (kr7, .int), (kr8, .int), (kf, .long), (ak0, .int), (ak1, .int), (ak2, .int), (ak3, .boolean), (ak4, .int), (ak5, .int), (ak6, .int), (kpb, .int), (kpn, .int)]) hK hK1 [] rfl
      generalize H1 = H at hP hS ⊢
      rw [hQ9]
      exact W.iret (v := r5) hx hb hr (fun t ht hW => ⟨⟨r5, (), rfl, (by first | rfl | trivial), q6, q7, q8, q9, q10, q11, q12, q13, q14, q15, q16, q17, q18, q19, q20, q21, q22, q23, q24, q25, q26, q27, q28, (by first | assumption | omega), (by first | assumption | omega), (by first | assumption | omega), (by first | assumption | omega), by rw [ht]; exact hP, va_K.moved hW.alike hK, hD⟩, hS.F ht⟩) hS.2.2 dX6_item_126
    have f_c4 := i_ne c4
    rcases Decidable.em (r3 = 60) with c29 | c29
    · refine lv_lookup (off := 105) (tgt := 135) hx hb dX6_item_30 (by decide) (by rw [c29]; decide) (by decide) ?_
      have f_c29 := i_eq c29
      refine lv_aload_n hx hb dX6_item_135 rfl (lv_at hl 0 rfl) ?_
      refine lv_iload_n hx hb dX6_item_136 rfl (lv_at hl 1 rfl) ?_
      refine lv_iload_n hx hb dX6_item_137 rfl (lv_at hl 2 rfl) ?_
      refine lv_iconst (v := 2) hx hb dX6_item_138 (by decide) ?_
      obtain ⟨hPc, hDc, hFc, hCm, hNw⟩ := C_s (wc := [eO h0 5 [.ref jb, .ref qm, .int mc, .ref qh, .ref qk, .ref qf, .int z2, .ref jp], eI qm km 60 fm, eI qh kh 8 fh, eR qk kk 9 fo, eI ro0 kr0 8 fr0, eI ro1 kr1 8 fr1, eI ro2 kr2 8 fr2, eI ro3 kr3 8 fr3, eI ro4 kr4 8 fr4, eI ro5 kr5 8 fr5, eI ro6 kr6 8 fr6, eI ro7 kr7 8 fr7, eI ro8 kr8 8 fr8, eL qf kf 9 ff, eO jb 0 [.ref aq0, .ref aq1, .ref aq2, .ref aq3, .ref aq4, .ref aq5, .ref aq6, .int aacc, .long afees, .int amis, .int abel, .int aref, .int acau], eI aq0 ak0 8 ag0, eI aq1 ak1 8 ag1, eI aq2 ak2 8 ag2, eI aq3 ak3 8 ag3, eI aq4 ak4 8 ag4, eI aq5 ak5 8 ag5, eI aq6 ak6 8 ag6, eO jp 2 [.ref pb, .ref pn, .int ps], eI pb kpb 80 fpb, eI pn kpn 80 fpn]) hP hD hS hA [(0, 22), (23, 2), (22, 1)] 25 rfl (by decide +kernel) rfl
      have hKc := K_s (tys' := [(km, .int), (kh, .int), (kk, .array .int), (kr0, .int), (kr1, .int), (kr2, .int), (kr3, .int), (kr4, .int), (kr5, .int), (kr6, .int), (kr7, .int), (kr8, .int), (kf, .long), (ak0, .int), (ak1, .int), (ak2, .int), (ak3, .boolean), (ak4, .int), (ak5, .int), (ak6, .int), (kpb, .int), (kpn, .int)]) hK [(0, 20), (21, 1), (20, 1)] rfl
      refine va_calli (va_runV (As := [.int p0, .int dp, .int 2]) (rest := []) ⟨hx, hb, hml, hown, hts⟩ (c_X6_attempt l dC dI h0 p0 dp 2 jb qm mc qh qk qf z2 jp km fm kh fh kk fo ro0 kr0 fr0 ro1 kr1 fr1 ro2 kr2 fr2 ro3 kr3 fr3 ro4 kr4 fr4 ro5 kr5 fr5 ro6 kr6 fr6 ro7 kr7 fr7 ro8 kr8 fr8 kf ff aq0 aq1 aq2 aq3 aq4 aq5 aq6 aacc afees amis abel aref acau ak0 ag0 ak1 ag1 ak2 ag2 ak3 ag3 ak4 ag4 ak5 ag5 ak6 ag6 pb pn ps kpb fpb kpn fpn nd H.size ra1 ra2 hp1 hp2 hb0 hf0 hf1 hf2 hf3 hf4 hf5 hf6 hf7 hf8 (by first | assumption | omega) (by first | assumption | omega) rb3 (by first | assumption | omega) pl1 pl2 hd0 hdn ih) (cwV 3 hts gX6_item_X6_attempt rfl rfl rfl (by decide +kernel) ⟨(show (10 * nd + 8) + 1 ≤ 10 * nd + 9 by omega), (show 8 + (5 + 11) + (200 * nd + 120) ≤ 200 * nd + 160 by omega)⟩) ⟨fun a U g mk q => by obtain ⟨q0, q1, qP, qK, qD⟩ := q; exact ⟨q0, q1, qP, va_K.moved (u := U) (U := U.calling g mk a) (Vm.Alike.refl U.vm) qK, qD⟩, va_recv (s := s) (q := (RX6, TX6, 8)) hKc hPc (ci := 5) (q0 := 0) rfl rfl, fun U hU hW => ⟨rfl, by rw [hU], by rw [hU]; exact hPc, va_K.moved hW.alike hKc, hDc.weaken (fun _ _ _ _ => trivial)⟩⟩ rfl rfl hl.1 rfl (lv_room (Nat.le_of_ble_eq_true rfl)) dX6_item_139 ⟨Nat.le_of_ble_eq_true rfl, Nat.le_of_ble_eq_true rfl⟩) hS (fun q _ h => hFc q h) hFc (fun r30 u t H1 locs ht hvm hw hB hz1 hk1 hS => ?_)
      refine Exists.elim hB ?_; clear hB; intro q31 hB
      refine Exists.elim hB ?_; clear hB; intro q32 hB
      refine Exists.elim hB ?_; clear hB; intro q33 hB
      refine Exists.elim hB ?_; clear hB; intro q34 hB
      refine Exists.elim hB ?_; clear hB; intro q35 hB
      refine Exists.elim hB ?_; clear hB; intro q36 hB
      refine Exists.elim hB ?_; clear hB; intro q37 hB
      refine Exists.elim hB ?_; clear hB; intro q38 hB
      refine Exists.elim hB ?_; clear hB; intro q39 hB
      refine Exists.elim hB ?_; clear hB; intro q40 hB
      refine Exists.elim hB ?_; clear hB; intro q41 hB
      refine Exists.elim hB ?_; clear hB; intro q42 hB
      refine Exists.elim hB ?_; clear hB; intro q43 hB
      refine Exists.elim hB ?_; clear hB; intro q44 hB
      refine Exists.elim hB ?_; clear hB; intro q45 hB
      refine Exists.elim hB ?_; clear hB; intro q46 hB
      refine Exists.elim hB ?_; clear hB; intro q47 hB
      refine Exists.elim hB ?_; clear hB; intro q48 hB
      refine Exists.elim hB ?_; clear hB; intro q49 hB
      refine Exists.elim hB ?_; clear hB; intro q50 hB
      refine Exists.elim hB ?_; clear hB; intro q51 hB
      refine Exists.elim hB ?_; clear hB; intro q52 hB
      refine Exists.elim hB ?_; clear hB; intro q53 hB
      have x1_r30 := hB.1
      replace hB := hB.2
      have x2_r30 := hB.1
      replace hB := hB.2
      have x3_r30 := hB.1
      replace hB := hB.2
      have x4_r30 := hB.1
      replace hB := hB.2
      obtain ⟨hP1, hK1, hD1⟩ := hB
      rw [ht] at hP1
      have hK1 := va_K.moved hvm.symm hK1
      try dsimp only at hw
      obtain ⟨hP, hD⟩ := J_s (wL := [eO h0 5 [.ref jb, .ref qm, .int q43, .ref qh, .ref qk, .ref qf, .int q44, .ref jp], eI qm km 60 q31, eI qh kh 8 q32, eR qk kk 9 fo, eI ro0 kr0 8 q33, eI ro1 kr1 8 q34, eI ro2 kr2 8 q35, eI ro3 kr3 8 q36, eI ro4 kr4 8 q37, eI ro5 kr5 8 q38, eI ro6 kr6 8 q39, eI ro7 kr7 8 q40, eI ro8 kr8 8 q41, eL qf kf 9 q42, eO jb 0 [.ref aq0, .ref aq1, .ref aq2, .ref aq3, .ref aq4, .ref aq5, .ref aq6, .int aacc, .long q49, .int q50, .int q51, .int q52, .int q53], eI aq0 ak0 8 ag0, eI aq1 ak1 8 q45, eI aq2 ak2 8 ag2, eI aq3 ak3 8 ag3, eI aq4 ak4 8 q46, eI aq5 ak5 8 q47, eI aq6 ak6 8 q48, eO jp 2 [.ref pb, .ref pn, .int ps], eI pb kpb 80 fpb, eI pn kpn 80 fpn]) hP hD [(0, 22), (23, 2), (22, 1)] [] hCm hNw (by decide +kernel) hk1 hFc hP1 hD1 rfl
      have hK := KJ_s (tys' := [(km, .int), (kh, .int), (kk, .array .int), (kr0, .int), (kr1, .int), (kr2, .int), (kr3, .int), (kr4, .int), (kr5, .int), (kr6, .int), (kr7, .int), (kr8, .int), (kf, .long), (ak0, .int), (ak1, .int), (ak2, .int), (ak3, .boolean), (ak4, .int), (ak5, .int), (ak6, .int), (kpb, .int), (kpn, .int)]) hK hK1 [] rfl
      generalize H1 = H at hP hS ⊢
      rw [hQ9]
      exact W.iret (v := r30) hx hb hr (fun t ht hW => ⟨⟨r30, (), rfl, (by first | rfl | trivial), q31, q32, q33, q34, q35, q36, q37, q38, q39, q40, q41, q42, q43, q44, q45, q46, q47, q48, q49, q50, q51, q52, q53, (by first | assumption | omega), (by first | assumption | omega), (by first | assumption | omega), (by first | assumption | omega), by rw [ht]; exact hP, va_K.moved hW.alike hK, hD⟩, hS.F ht⟩) hS.2.2 dX6_item_142
    have f_c29 := i_ne c29
    rcases Decidable.em (r3 = 91) with c54 | c54
    · refine lv_lookup (off := 97) (tgt := 127) hx hb dX6_item_30 (by decide) (by rw [c54]; decide) (by decide) ?_
      have f_c54 := i_eq c54
      refine lv_aload_n hx hb dX6_item_127 rfl (lv_at hl 0 rfl) ?_
      refine lv_iload_n hx hb dX6_item_128 rfl (lv_at hl 1 rfl) ?_
      refine lv_iload_n hx hb dX6_item_129 rfl (lv_at hl 2 rfl) ?_
      refine lv_iconst (v := 4) hx hb dX6_item_130 (by decide) ?_
      obtain ⟨hPc, hDc, hFc, hCm, hNw⟩ := C_s (wc := [eO h0 5 [.ref jb, .ref qm, .int mc, .ref qh, .ref qk, .ref qf, .int z2, .ref jp], eI qm km 60 fm, eI qh kh 8 fh, eR qk kk 9 fo, eI ro0 kr0 8 fr0, eI ro1 kr1 8 fr1, eI ro2 kr2 8 fr2, eI ro3 kr3 8 fr3, eI ro4 kr4 8 fr4, eI ro5 kr5 8 fr5, eI ro6 kr6 8 fr6, eI ro7 kr7 8 fr7, eI ro8 kr8 8 fr8, eL qf kf 9 ff, eO jb 0 [.ref aq0, .ref aq1, .ref aq2, .ref aq3, .ref aq4, .ref aq5, .ref aq6, .int aacc, .long afees, .int amis, .int abel, .int aref, .int acau], eI aq0 ak0 8 ag0, eI aq1 ak1 8 ag1, eI aq2 ak2 8 ag2, eI aq3 ak3 8 ag3, eI aq4 ak4 8 ag4, eI aq5 ak5 8 ag5, eI aq6 ak6 8 ag6, eO jp 2 [.ref pb, .ref pn, .int ps], eI pb kpb 80 fpb, eI pn kpn 80 fpn]) hP hD hS hA [(0, 22), (23, 2), (22, 1)] 25 rfl (by decide +kernel) rfl
      have hKc := K_s (tys' := [(km, .int), (kh, .int), (kk, .array .int), (kr0, .int), (kr1, .int), (kr2, .int), (kr3, .int), (kr4, .int), (kr5, .int), (kr6, .int), (kr7, .int), (kr8, .int), (kf, .long), (ak0, .int), (ak1, .int), (ak2, .int), (ak3, .boolean), (ak4, .int), (ak5, .int), (ak6, .int), (kpb, .int), (kpn, .int)]) hK [(0, 20), (21, 1), (20, 1)] rfl
      refine va_calli (va_runV (As := [.int p0, .int dp, .int 4]) (rest := []) ⟨hx, hb, hml, hown, hts⟩ (c_X6_attempt l dC dI h0 p0 dp 4 jb qm mc qh qk qf z2 jp km fm kh fh kk fo ro0 kr0 fr0 ro1 kr1 fr1 ro2 kr2 fr2 ro3 kr3 fr3 ro4 kr4 fr4 ro5 kr5 fr5 ro6 kr6 fr6 ro7 kr7 fr7 ro8 kr8 fr8 kf ff aq0 aq1 aq2 aq3 aq4 aq5 aq6 aacc afees amis abel aref acau ak0 ag0 ak1 ag1 ak2 ag2 ak3 ag3 ak4 ag4 ak5 ag5 ak6 ag6 pb pn ps kpb fpb kpn fpn nd H.size ra1 ra2 hp1 hp2 hb0 hf0 hf1 hf2 hf3 hf4 hf5 hf6 hf7 hf8 (by first | assumption | omega) (by first | assumption | omega) rb3 (by first | assumption | omega) pl1 pl2 hd0 hdn ih) (cwV 3 hts gX6_item_X6_attempt rfl rfl rfl (by decide +kernel) ⟨(show (10 * nd + 8) + 1 ≤ 10 * nd + 9 by omega), (show 8 + (5 + 11) + (200 * nd + 120) ≤ 200 * nd + 160 by omega)⟩) ⟨fun a U g mk q => by obtain ⟨q0, q1, qP, qK, qD⟩ := q; exact ⟨q0, q1, qP, va_K.moved (u := U) (U := U.calling g mk a) (Vm.Alike.refl U.vm) qK, qD⟩, va_recv (s := s) (q := (RX6, TX6, 8)) hKc hPc (ci := 5) (q0 := 0) rfl rfl, fun U hU hW => ⟨rfl, by rw [hU], by rw [hU]; exact hPc, va_K.moved hW.alike hKc, hDc.weaken (fun _ _ _ _ => trivial)⟩⟩ rfl rfl hl.1 rfl (lv_room (Nat.le_of_ble_eq_true rfl)) dX6_item_131 ⟨Nat.le_of_ble_eq_true rfl, Nat.le_of_ble_eq_true rfl⟩) hS (fun q _ h => hFc q h) hFc (fun r55 u t H1 locs ht hvm hw hB hz1 hk1 hS => ?_)
      refine Exists.elim hB ?_; clear hB; intro q56 hB
      refine Exists.elim hB ?_; clear hB; intro q57 hB
      refine Exists.elim hB ?_; clear hB; intro q58 hB
      refine Exists.elim hB ?_; clear hB; intro q59 hB
      refine Exists.elim hB ?_; clear hB; intro q60 hB
      refine Exists.elim hB ?_; clear hB; intro q61 hB
      refine Exists.elim hB ?_; clear hB; intro q62 hB
      refine Exists.elim hB ?_; clear hB; intro q63 hB
      refine Exists.elim hB ?_; clear hB; intro q64 hB
      refine Exists.elim hB ?_; clear hB; intro q65 hB
      refine Exists.elim hB ?_; clear hB; intro q66 hB
      refine Exists.elim hB ?_; clear hB; intro q67 hB
      refine Exists.elim hB ?_; clear hB; intro q68 hB
      refine Exists.elim hB ?_; clear hB; intro q69 hB
      refine Exists.elim hB ?_; clear hB; intro q70 hB
      refine Exists.elim hB ?_; clear hB; intro q71 hB
      refine Exists.elim hB ?_; clear hB; intro q72 hB
      refine Exists.elim hB ?_; clear hB; intro q73 hB
      refine Exists.elim hB ?_; clear hB; intro q74 hB
      refine Exists.elim hB ?_; clear hB; intro q75 hB
      refine Exists.elim hB ?_; clear hB; intro q76 hB
      refine Exists.elim hB ?_; clear hB; intro q77 hB
      refine Exists.elim hB ?_; clear hB; intro q78 hB
      have x1_r55 := hB.1
      replace hB := hB.2
      have x2_r55 := hB.1
      replace hB := hB.2
      have x3_r55 := hB.1
      replace hB := hB.2
      have x4_r55 := hB.1
      replace hB := hB.2
      obtain ⟨hP1, hK1, hD1⟩ := hB
      rw [ht] at hP1
      have hK1 := va_K.moved hvm.symm hK1
      try dsimp only at hw
      obtain ⟨hP, hD⟩ := J_s (wL := [eO h0 5 [.ref jb, .ref qm, .int q68, .ref qh, .ref qk, .ref qf, .int q69, .ref jp], eI qm km 60 q56, eI qh kh 8 q57, eR qk kk 9 fo, eI ro0 kr0 8 q58, eI ro1 kr1 8 q59, eI ro2 kr2 8 q60, eI ro3 kr3 8 q61, eI ro4 kr4 8 q62, eI ro5 kr5 8 q63, eI ro6 kr6 8 q64, eI ro7 kr7 8 q65, eI ro8 kr8 8 q66, eL qf kf 9 q67, eO jb 0 [.ref aq0, .ref aq1, .ref aq2, .ref aq3, .ref aq4, .ref aq5, .ref aq6, .int aacc, .long q74, .int q75, .int q76, .int q77, .int q78], eI aq0 ak0 8 ag0, eI aq1 ak1 8 q70, eI aq2 ak2 8 ag2, eI aq3 ak3 8 ag3, eI aq4 ak4 8 q71, eI aq5 ak5 8 q72, eI aq6 ak6 8 q73, eO jp 2 [.ref pb, .ref pn, .int ps], eI pb kpb 80 fpb, eI pn kpn 80 fpn]) hP hD [(0, 22), (23, 2), (22, 1)] [] hCm hNw (by decide +kernel) hk1 hFc hP1 hD1 rfl
      have hK := KJ_s (tys' := [(km, .int), (kh, .int), (kk, .array .int), (kr0, .int), (kr1, .int), (kr2, .int), (kr3, .int), (kr4, .int), (kr5, .int), (kr6, .int), (kr7, .int), (kr8, .int), (kf, .long), (ak0, .int), (ak1, .int), (ak2, .int), (ak3, .boolean), (ak4, .int), (ak5, .int), (ak6, .int), (kpb, .int), (kpn, .int)]) hK hK1 [] rfl
      generalize H1 = H at hP hS ⊢
      rw [hQ9]
      exact W.iret (v := r55) hx hb hr (fun t ht hW => ⟨⟨r55, (), rfl, (by first | rfl | trivial), q56, q57, q58, q59, q60, q61, q62, q63, q64, q65, q66, q67, q68, q69, q70, q71, q72, q73, q74, q75, q76, q77, q78, (by first | assumption | omega), (by first | assumption | omega), (by first | assumption | omega), (by first | assumption | omega), by rw [ht]; exact hP, va_K.moved hW.alike hK, hD⟩, hS.F ht⟩) hS.2.2 dX6_item_134
    have f_c54 := i_ne c54
    rcases Decidable.em (r3 = 97) with c79 | c79
    · refine lv_lookup (off := 150) (tgt := 180) hx hb dX6_item_30 (by decide) (by rw [c79]; decide) (by decide) ?_
      have f_c79 := i_eq c79
      refine lv_aload_n hx hb dX6_item_180 rfl (lv_at hl 0 rfl) ?_
      refine lv_aload_n hx hb dX6_item_181 rfl (lv_at hl 0 rfl) ?_
      refine va_get (D := (dC, dI)) (ci := 5) (v := .ref jp) (C := RX6) (T := TX6) (N := 8) hx hb hts (fun w h => List.mem_cons_of_mem _ (inlX6 w h)) hown hK hP 0 rfl rfl 7 (by decide) (hts (.fieldLink RX6 41 "ClearingGates$Runner" "program" "LClearingGates$Program;") (List.mem_cons_of_mem _ mw_195)) (fun _ h9 => h9) rfl dX6_item_182 ?_
      refine lv_iload_n hx hb dX6_item_185 rfl (lv_at hl 1 rfl) ?_
      refine lv_iconst (v := 1) hx hb dX6_item_186 (by decide) ?_
      refine lv_iadd hx hb dX6_item_187 ?_
      refine lv_topi (fun z80 e_z80 => ?_)
      (first | have t_z80 := i_add e_z80 (by omega) (by omega) | skip)
      obtain ⟨hPc, hDc, hFc, hCm, hNw⟩ := C_s (wc := [eO jp 2 [.ref pb, .ref pn, .int ps], eI pb kpb 80 fpb]) hP hD hS hA [(23, 2)] 25 rfl (by decide +kernel) rfl
      have hKc := K_s (tys' := [(kpb, .int)]) hK [(21, 1)] rfl
      refine va_calli (va_runV (As := [.int z80]) (rest := [.ref h0]) ⟨hx, hb, hml, hown, hts⟩ (c_X3_figureAt l dC dI jp z80 pb pn ps kpb fpb H.size hp1 hp2) (cwV 1 hts gX6_item_X3_figureAt rfl rfl rfl (by decide +kernel) ⟨(show (1) + 1 ≤ 10 * nd + 9 by omega), (show 8 + (2 + 11) + (21) ≤ 200 * nd + 160 by omega)⟩) ⟨fun a U g mk q => by obtain ⟨q0, q1, qP, qK, qD⟩ := q; exact ⟨q0, q1, qP, va_K.moved (u := U) (U := U.calling g mk a) (Vm.Alike.refl U.vm) qK, qD⟩, va_recv (s := s) (q := (RX3, TX3, 3)) hKc hPc (ci := 2) (q0 := 0) rfl rfl, fun U hU hW => ⟨rfl, by rw [hU], by rw [hU]; exact hPc, va_K.moved hW.alike hKc, hDc.weaken (fun _ _ _ _ => trivial)⟩⟩ rfl rfl hl.1 rfl (lv_room (Nat.le_of_ble_eq_true rfl)) dX6_item_188 ⟨Nat.le_of_ble_eq_true rfl, Nat.le_of_ble_eq_true rfl⟩) hS (fun q _ h => hFc q h) hFc (fun r81 u t H1 locs ht hvm hw hB hz1 hk1 hS => ?_)
      obtain ⟨hP1, hK1, hD1⟩ := hB
      rw [ht] at hP1
      have hK1 := va_K.moved hvm.symm hK1
      try dsimp only at hw
      obtain ⟨hP, hD⟩ := J_s (wL := [eO h0 5 [.ref jb, .ref qm, .int mc, .ref qh, .ref qk, .ref qf, .int z2, .ref jp], eI qm km 60 fm, eI qh kh 8 fh, eR qk kk 9 fo, eI ro0 kr0 8 fr0, eI ro1 kr1 8 fr1, eI ro2 kr2 8 fr2, eI ro3 kr3 8 fr3, eI ro4 kr4 8 fr4, eI ro5 kr5 8 fr5, eI ro6 kr6 8 fr6, eI ro7 kr7 8 fr7, eI ro8 kr8 8 fr8, eL qf kf 9 ff, eO jb 0 [.ref aq0, .ref aq1, .ref aq2, .ref aq3, .ref aq4, .ref aq5, .ref aq6, .int aacc, .long afees, .int amis, .int abel, .int aref, .int acau], eI aq0 ak0 8 ag0, eI aq1 ak1 8 ag1, eI aq2 ak2 8 ag2, eI aq3 ak3 8 ag3, eI aq4 ak4 8 ag4, eI aq5 ak5 8 ag5, eI aq6 ak6 8 ag6, eI pn kpn 80 fpn, eO jp 2 [.ref pb, .ref pn, .int ps], eI pb kpb 80 fpb]) hP hD [(23, 2)] [(0, 23)] hCm hNw (by decide +kernel) hk1 hFc hP1 hD1 rfl
      have hK := KJ_s (tys' := [(km, .int), (kh, .int), (kk, .array .int), (kr0, .int), (kr1, .int), (kr2, .int), (kr3, .int), (kr4, .int), (kr5, .int), (kr6, .int), (kr7, .int), (kr8, .int), (kf, .long), (ak0, .int), (ak1, .int), (ak2, .int), (ak3, .boolean), (ak4, .int), (ak5, .int), (ak6, .int), (kpn, .int), (kpb, .int)]) hK hK1 [(0, 21)] rfl
      generalize H1 = H at hP hS ⊢
      refine lv_iconst (v := 2) hx hb dX6_item_191 (by decide) ?_
      obtain ⟨hPc, hDc, hFc, hCm, hNw⟩ := C_s (wc := [eO h0 5 [.ref jb, .ref qm, .int mc, .ref qh, .ref qk, .ref qf, .int z2, .ref jp], eI qm km 60 fm, eI qh kh 8 fh, eO jb 0 [.ref aq0, .ref aq1, .ref aq2, .ref aq3, .ref aq4, .ref aq5, .ref aq6, .int aacc, .long afees, .int amis, .int abel, .int aref, .int acau], eI aq3 ak3 8 ag3]) hP hD hS hA [(0, 3), (14, 1), (18, 1)] 25 rfl (by decide +kernel) rfl
      have hKc := K_s (tys' := [(km, .int), (kh, .int), (ak3, .boolean)]) hK [(0, 2), (16, 1)] rfl
      refine va_calli (va_runV (As := [.int r81, .int 2]) (rest := []) ⟨hx, hb, hml, hown, hts⟩ (c_X6_bell l dC dI h0 r81 2 jb qm mc qh qk qf z2 jp km fm kh fh aq0 aq1 aq2 aq3 aq4 aq5 aq6 aacc afees amis abel aref acau ak3 ag3 H.size ra1 ra2 rb3 (by first | assumption | omega)) (cwV 2 hts gX6_item_X6_bell rfl rfl rfl (by decide +kernel) ⟨(show (2) + 1 ≤ 10 * nd + 9 by omega), (show 8 + (3 + 11) + (42) ≤ 200 * nd + 160 by omega)⟩) ⟨fun a U g mk q => by obtain ⟨q0, q1, qP, qK, qD⟩ := q; exact ⟨q0, q1, qP, va_K.moved (u := U) (U := U.calling g mk a) (Vm.Alike.refl U.vm) qK, qD⟩, va_recv (s := s) (q := (RX6, TX6, 8)) hKc hPc (ci := 5) (q0 := 0) rfl rfl, fun U hU hW => ⟨rfl, by rw [hU], by rw [hU]; exact hPc, va_K.moved hW.alike hKc, hDc.weaken (fun _ _ _ _ => trivial)⟩⟩ rfl rfl hl.1 rfl (lv_room (Nat.le_of_ble_eq_true rfl)) dX6_item_192 ⟨Nat.le_of_ble_eq_true rfl, Nat.le_of_ble_eq_true rfl⟩) hS (fun q _ h => hFc q h) hFc (fun r82 u t H1 locs ht hvm hw hB hz1 hk1 hS => ?_)
      obtain ⟨q83, q84, q85, q86, q87, x3_r82, x4_r82, hP1, hK1, hD1⟩ := hB
      rw [ht] at hP1
      have hK1 := va_K.moved hvm.symm hK1
      try dsimp only at hw
      obtain ⟨hP, hD⟩ := J_s (wL := [eR qk kk 9 fo, eI ro0 kr0 8 fr0, eI ro1 kr1 8 fr1, eI ro2 kr2 8 fr2, eI ro3 kr3 8 fr3, eI ro4 kr4 8 fr4, eI ro5 kr5 8 fr5, eI ro6 kr6 8 fr6, eI ro7 kr7 8 fr7, eI ro8 kr8 8 fr8, eL qf kf 9 ff, eI aq0 ak0 8 ag0, eI aq1 ak1 8 ag1, eI aq2 ak2 8 ag2, eI aq4 ak4 8 ag4, eI aq5 ak5 8 ag5, eI aq6 ak6 8 ag6, eI pn kpn 80 fpn, eO jp 2 [.ref pb, .ref pn, .int ps], eI pb kpb 80 fpb, eO h0 5 [.ref jb, .ref qm, .int q84, .ref qh, .ref qk, .ref qf, .int z2, .ref jp], eI qm km 60 q83, eI qh kh 8 fh, eO jb 0 [.ref aq0, .ref aq1, .ref aq2, .ref aq3, .ref aq4, .ref aq5, .ref aq6, .int aacc, .long afees, .int q85, .int q86, .int q87, .int acau], eI aq3 ak3 8 ag3]) hP hD [(0, 3), (14, 1), (18, 1)] [(3, 11), (15, 3), (19, 6)] hCm hNw (by decide +kernel) hk1 hFc hP1 hD1 rfl
      have hK := KJ_s (tys' := [(kk, .array .int), (kr0, .int), (kr1, .int), (kr2, .int), (kr3, .int), (kr4, .int), (kr5, .int), (kr6, .int), (kr7, .int), (kr8, .int), (kf, .long), (ak0, .int), (ak1, .int), (ak2, .int), (ak4, .int), (ak5, .int), (ak6, .int), (kpn, .int), (kpb, .int), (km, .int), (kh, .int), (ak3, .boolean)]) hK hK1 [(2, 14), (17, 5)] rfl
      generalize H1 = H at hP hS ⊢
      subst hw
      rw [hQ9]
      exact W.iret (v := 0) hx hb hr (fun t ht hW => ⟨⟨0, (), rfl, (by first | rfl | trivial), q83, fh, fr0, fr1, fr2, fr3, fr4, fr5, fr6, fr7, fr8, ff, q84, z2, ag1, ag4, ag5, ag6, afees, q85, q86, q87, acau, (by first | assumption | omega), (by first | assumption | omega), (by first | assumption | omega), (by first | assumption | omega), by rw [ht]; exact P_s hP [(20, 3), (0, 11), (23, 1), (11, 3), (24, 1), (14, 3), (18, 2), (17, 1)] rfl, va_K.moved hW.alike (K_s hK [(19, 2), (0, 14), (21, 1), (14, 3), (18, 1), (17, 1)] rfl), D_s hD [(20, 3), (0, 11), (23, 1), (11, 3), (24, 1), (14, 3), (18, 2), (17, 1)] 25 rfl (by decide +kernel) rfl⟩, hS.F ht⟩) hS.2.2 dX6_item_195
    have f_c79 := i_ne c79
    rcases Decidable.em (r3 = 98) with c88 | c88
    · refine lv_lookup (off := 128) (tgt := 158) hx hb dX6_item_30 (by decide) (by rw [c88]; decide) (by decide) ?_
      have f_c88 := i_eq c88
      refine lv_bipush (v := 6) hx hb dX6_item_158 (by decide) ?_
      rw [hQ9]
      exact W.iret (v := 6) hx hb hr (fun t ht hW => ⟨⟨6, (), rfl, (by first | rfl | trivial), fm, fh, fr0, fr1, fr2, fr3, fr4, fr5, fr6, fr7, fr8, ff, mc, z2, ag1, ag4, ag5, ag6, afees, amis, abel, aref, acau, (by first | assumption | omega), (by first | assumption | omega), (by first | assumption | omega), (by first | assumption | omega), by rw [ht]; exact P_s hP [(0, 22), (23, 2), (22, 1)] rfl, va_K.moved hW.alike (K_s hK [(0, 20), (21, 1), (20, 1)] rfl), D_s hD [(0, 22), (23, 2), (22, 1)] 25 rfl (by decide +kernel) rfl⟩, hS.F ht⟩) hS.2.2 dX6_item_160
    have f_c88 := i_ne c88
    rcases Decidable.em (r3 = 99) with c89 | c89
    · refine lv_lookup (off := 131) (tgt := 161) hx hb dX6_item_30 (by decide) (by rw [c89]; decide) (by decide) ?_
      have f_c89 := i_eq c89
      refine lv_bipush (v := 7) hx hb dX6_item_161 (by decide) ?_
      rw [hQ9]
      exact W.iret (v := 7) hx hb hr (fun t ht hW => ⟨⟨7, (), rfl, (by first | rfl | trivial), fm, fh, fr0, fr1, fr2, fr3, fr4, fr5, fr6, fr7, fr8, ff, mc, z2, ag1, ag4, ag5, ag6, afees, amis, abel, aref, acau, (by first | assumption | omega), (by first | assumption | omega), (by first | assumption | omega), (by first | assumption | omega), by rw [ht]; exact P_s hP [(0, 22), (23, 2), (22, 1)] rfl, va_K.moved hW.alike (K_s hK [(0, 20), (21, 1), (20, 1)] rfl), D_s hD [(0, 22), (23, 2), (22, 1)] 25 rfl (by decide +kernel) rfl⟩, hS.F ht⟩) hS.2.2 dX6_item_163
    have f_c89 := i_ne c89
    rcases Decidable.em (r3 = 110) with c90 | c90
    · refine lv_lookup (off := 134) (tgt := 164) hx hb dX6_item_30 (by decide) (by rw [c90]; decide) (by decide) ?_
      have f_c90 := i_eq c90
      refine lv_aload_n hx hb dX6_item_164 rfl (lv_at hl 0 rfl) ?_
      refine lv_aload_n hx hb dX6_item_165 rfl (lv_at hl 0 rfl) ?_
      refine va_get (D := (dC, dI)) (ci := 5) (v := .ref jp) (C := RX6) (T := TX6) (N := 8) hx hb hts (fun w h => List.mem_cons_of_mem _ (inlX6 w h)) hown hK hP 0 rfl rfl 7 (by decide) (hts (.fieldLink RX6 41 "ClearingGates$Runner" "program" "LClearingGates$Program;") (List.mem_cons_of_mem _ mw_195)) (fun _ h9 => h9) rfl dX6_item_166 ?_
      refine lv_iload_n hx hb dX6_item_169 rfl (lv_at hl 1 rfl) ?_
      refine lv_iconst (v := 1) hx hb dX6_item_170 (by decide) ?_
      refine lv_iadd hx hb dX6_item_171 ?_
      refine lv_topi (fun z91 e_z91 => ?_)
      (first | have t_z91 := i_add e_z91 (by omega) (by omega) | skip)
      obtain ⟨hPc, hDc, hFc, hCm, hNw⟩ := C_s (wc := [eO jp 2 [.ref pb, .ref pn, .int ps], eI pb kpb 80 fpb]) hP hD hS hA [(23, 2)] 25 rfl (by decide +kernel) rfl
      have hKc := K_s (tys' := [(kpb, .int)]) hK [(21, 1)] rfl
      refine va_calli (va_runV (As := [.int z91]) (rest := [.ref h0]) ⟨hx, hb, hml, hown, hts⟩ (c_X3_figureAt l dC dI jp z91 pb pn ps kpb fpb H.size hp1 hp2) (cwV 1 hts gX6_item_X3_figureAt rfl rfl rfl (by decide +kernel) ⟨(show (1) + 1 ≤ 10 * nd + 9 by omega), (show 8 + (2 + 11) + (21) ≤ 200 * nd + 160 by omega)⟩) ⟨fun a U g mk q => by obtain ⟨q0, q1, qP, qK, qD⟩ := q; exact ⟨q0, q1, qP, va_K.moved (u := U) (U := U.calling g mk a) (Vm.Alike.refl U.vm) qK, qD⟩, va_recv (s := s) (q := (RX3, TX3, 3)) hKc hPc (ci := 2) (q0 := 0) rfl rfl, fun U hU hW => ⟨rfl, by rw [hU], by rw [hU]; exact hPc, va_K.moved hW.alike hKc, hDc.weaken (fun _ _ _ _ => trivial)⟩⟩ rfl rfl hl.1 rfl (lv_room (Nat.le_of_ble_eq_true rfl)) dX6_item_172 ⟨Nat.le_of_ble_eq_true rfl, Nat.le_of_ble_eq_true rfl⟩) hS (fun q _ h => hFc q h) hFc (fun r92 u t H1 locs ht hvm hw hB hz1 hk1 hS => ?_)
      obtain ⟨hP1, hK1, hD1⟩ := hB
      rw [ht] at hP1
      have hK1 := va_K.moved hvm.symm hK1
      try dsimp only at hw
      obtain ⟨hP, hD⟩ := J_s (wL := [eO h0 5 [.ref jb, .ref qm, .int mc, .ref qh, .ref qk, .ref qf, .int z2, .ref jp], eI qm km 60 fm, eI qh kh 8 fh, eR qk kk 9 fo, eI ro0 kr0 8 fr0, eI ro1 kr1 8 fr1, eI ro2 kr2 8 fr2, eI ro3 kr3 8 fr3, eI ro4 kr4 8 fr4, eI ro5 kr5 8 fr5, eI ro6 kr6 8 fr6, eI ro7 kr7 8 fr7, eI ro8 kr8 8 fr8, eL qf kf 9 ff, eO jb 0 [.ref aq0, .ref aq1, .ref aq2, .ref aq3, .ref aq4, .ref aq5, .ref aq6, .int aacc, .long afees, .int amis, .int abel, .int aref, .int acau], eI aq0 ak0 8 ag0, eI aq1 ak1 8 ag1, eI aq2 ak2 8 ag2, eI aq3 ak3 8 ag3, eI aq4 ak4 8 ag4, eI aq5 ak5 8 ag5, eI aq6 ak6 8 ag6, eI pn kpn 80 fpn, eO jp 2 [.ref pb, .ref pn, .int ps], eI pb kpb 80 fpb]) hP hD [(23, 2)] [(0, 23)] hCm hNw (by decide +kernel) hk1 hFc hP1 hD1 rfl
      have hK := KJ_s (tys' := [(km, .int), (kh, .int), (kk, .array .int), (kr0, .int), (kr1, .int), (kr2, .int), (kr3, .int), (kr4, .int), (kr5, .int), (kr6, .int), (kr7, .int), (kr8, .int), (kf, .long), (ak0, .int), (ak1, .int), (ak2, .int), (ak3, .boolean), (ak4, .int), (ak5, .int), (ak6, .int), (kpn, .int), (kpb, .int)]) hK hK1 [(0, 21)] rfl
      generalize H1 = H at hP hS ⊢
      refine lv_iconst (v := 1) hx hb dX6_item_175 (by decide) ?_
      obtain ⟨hPc, hDc, hFc, hCm, hNw⟩ := C_s (wc := [eO h0 5 [.ref jb, .ref qm, .int mc, .ref qh, .ref qk, .ref qf, .int z2, .ref jp], eI qm km 60 fm, eI qh kh 8 fh, eO jb 0 [.ref aq0, .ref aq1, .ref aq2, .ref aq3, .ref aq4, .ref aq5, .ref aq6, .int aacc, .long afees, .int amis, .int abel, .int aref, .int acau], eI aq3 ak3 8 ag3]) hP hD hS hA [(0, 3), (14, 1), (18, 1)] 25 rfl (by decide +kernel) rfl
      have hKc := K_s (tys' := [(km, .int), (kh, .int), (ak3, .boolean)]) hK [(0, 2), (16, 1)] rfl
      refine va_calli (va_runV (As := [.int r92, .int 1]) (rest := []) ⟨hx, hb, hml, hown, hts⟩ (c_X6_bell l dC dI h0 r92 1 jb qm mc qh qk qf z2 jp km fm kh fh aq0 aq1 aq2 aq3 aq4 aq5 aq6 aacc afees amis abel aref acau ak3 ag3 H.size ra1 ra2 rb3 (by first | assumption | omega)) (cwV 2 hts gX6_item_X6_bell rfl rfl rfl (by decide +kernel) ⟨(show (2) + 1 ≤ 10 * nd + 9 by omega), (show 8 + (3 + 11) + (42) ≤ 200 * nd + 160 by omega)⟩) ⟨fun a U g mk q => by obtain ⟨q0, q1, qP, qK, qD⟩ := q; exact ⟨q0, q1, qP, va_K.moved (u := U) (U := U.calling g mk a) (Vm.Alike.refl U.vm) qK, qD⟩, va_recv (s := s) (q := (RX6, TX6, 8)) hKc hPc (ci := 5) (q0 := 0) rfl rfl, fun U hU hW => ⟨rfl, by rw [hU], by rw [hU]; exact hPc, va_K.moved hW.alike hKc, hDc.weaken (fun _ _ _ _ => trivial)⟩⟩ rfl rfl hl.1 rfl (lv_room (Nat.le_of_ble_eq_true rfl)) dX6_item_176 ⟨Nat.le_of_ble_eq_true rfl, Nat.le_of_ble_eq_true rfl⟩) hS (fun q _ h => hFc q h) hFc (fun r93 u t H1 locs ht hvm hw hB hz1 hk1 hS => ?_)
      obtain ⟨q94, q95, q96, q97, q98, x3_r93, x4_r93, hP1, hK1, hD1⟩ := hB
      rw [ht] at hP1
      have hK1 := va_K.moved hvm.symm hK1
      try dsimp only at hw
      obtain ⟨hP, hD⟩ := J_s (wL := [eR qk kk 9 fo, eI ro0 kr0 8 fr0, eI ro1 kr1 8 fr1, eI ro2 kr2 8 fr2, eI ro3 kr3 8 fr3, eI ro4 kr4 8 fr4, eI ro5 kr5 8 fr5, eI ro6 kr6 8 fr6, eI ro7 kr7 8 fr7, eI ro8 kr8 8 fr8, eL qf kf 9 ff, eI aq0 ak0 8 ag0, eI aq1 ak1 8 ag1, eI aq2 ak2 8 ag2, eI aq4 ak4 8 ag4, eI aq5 ak5 8 ag5, eI aq6 ak6 8 ag6, eI pn kpn 80 fpn, eO jp 2 [.ref pb, .ref pn, .int ps], eI pb kpb 80 fpb, eO h0 5 [.ref jb, .ref qm, .int q95, .ref qh, .ref qk, .ref qf, .int z2, .ref jp], eI qm km 60 q94, eI qh kh 8 fh, eO jb 0 [.ref aq0, .ref aq1, .ref aq2, .ref aq3, .ref aq4, .ref aq5, .ref aq6, .int aacc, .long afees, .int q96, .int q97, .int q98, .int acau], eI aq3 ak3 8 ag3]) hP hD [(0, 3), (14, 1), (18, 1)] [(3, 11), (15, 3), (19, 6)] hCm hNw (by decide +kernel) hk1 hFc hP1 hD1 rfl
      have hK := KJ_s (tys' := [(kk, .array .int), (kr0, .int), (kr1, .int), (kr2, .int), (kr3, .int), (kr4, .int), (kr5, .int), (kr6, .int), (kr7, .int), (kr8, .int), (kf, .long), (ak0, .int), (ak1, .int), (ak2, .int), (ak4, .int), (ak5, .int), (ak6, .int), (kpn, .int), (kpb, .int), (km, .int), (kh, .int), (ak3, .boolean)]) hK hK1 [(2, 14), (17, 5)] rfl
      generalize H1 = H at hP hS ⊢
      subst hw
      rw [hQ9]
      exact W.iret (v := 0) hx hb hr (fun t ht hW => ⟨⟨0, (), rfl, (by first | rfl | trivial), q94, fh, fr0, fr1, fr2, fr3, fr4, fr5, fr6, fr7, fr8, ff, q95, z2, ag1, ag4, ag5, ag6, afees, q96, q97, q98, acau, (by first | assumption | omega), (by first | assumption | omega), (by first | assumption | omega), (by first | assumption | omega), by rw [ht]; exact P_s hP [(20, 3), (0, 11), (23, 1), (11, 3), (24, 1), (14, 3), (18, 2), (17, 1)] rfl, va_K.moved hW.alike (K_s hK [(19, 2), (0, 14), (21, 1), (14, 3), (18, 1), (17, 1)] rfl), D_s hD [(20, 3), (0, 11), (23, 1), (11, 3), (24, 1), (14, 3), (18, 2), (17, 1)] 25 rfl (by decide +kernel) rfl⟩, hS.F ht⟩) hS.2.2 dX6_item_179
    have f_c90 := i_ne c90
    rcases Decidable.em (r3 = 112) with c99 | c99
    · refine lv_lookup (off := 120) (tgt := 150) hx hb dX6_item_30 (by decide) (by rw [c99]; decide) (by decide) ?_
      have f_c99 := i_eq c99
      refine lv_aload_n hx hb dX6_item_150 rfl (lv_at hl 0 rfl) ?_
      refine lv_iload_n hx hb dX6_item_151 rfl (lv_at hl 1 rfl) ?_
      obtain ⟨hPc, hDc, hFc, hCm, hNw⟩ := C_s (wc := [eO h0 5 [.ref jb, .ref qm, .int mc, .ref qh, .ref qk, .ref qf, .int z2, .ref jp], eI qm km 60 fm, eI qh kh 8 fh, eO jb 0 [.ref aq0, .ref aq1, .ref aq2, .ref aq3, .ref aq4, .ref aq5, .ref aq6, .int aacc, .long afees, .int amis, .int abel, .int aref, .int acau], eI aq0 ak0 8 ag0, eI aq1 ak1 8 ag1, eI aq2 ak2 8 ag2, eO jp 2 [.ref pb, .ref pn, .int ps], eI pb kpb 80 fpb, eI pn kpn 80 fpn]) hP hD hS hA [(0, 3), (14, 4), (23, 2), (22, 1)] 25 rfl (by decide +kernel) rfl
      have hKc := K_s (tys' := [(km, .int), (kh, .int), (ak0, .int), (ak1, .int), (ak2, .int), (kpb, .int), (kpn, .int)]) hK [(0, 2), (13, 3), (21, 1), (20, 1)] rfl
      refine va_calli (va_runV (As := [.int p0]) (rest := []) ⟨hx, hb, hml, hown, hts⟩ (c_X6_payment l dC dI h0 p0 jb qm mc qh qk qf z2 jp km fm kh fh aq0 aq1 aq2 aq3 aq4 aq5 aq6 aacc afees amis abel aref acau ak0 ag0 ak1 ag1 ak2 ag2 pb pn ps kpb fpb kpn fpn H.size ra1 ra2 rb3 (by first | assumption | omega) hp1 hp2 hb0 pl1 pl2) (cwV 1 hts gX6_item_X6_payment rfl rfl rfl (by decide +kernel) ⟨(show (2) + 1 ≤ 10 * nd + 9 by omega), (show 8 + (7 + 11) + (45) ≤ 200 * nd + 160 by omega)⟩) ⟨fun a U g mk q => by obtain ⟨q0, q1, qP, qK, qD⟩ := q; exact ⟨q0, q1, qP, va_K.moved (u := U) (U := U.calling g mk a) (Vm.Alike.refl U.vm) qK, qD⟩, va_recv (s := s) (q := (RX6, TX6, 8)) hKc hPc (ci := 5) (q0 := 0) rfl rfl, fun U hU hW => ⟨rfl, by rw [hU], by rw [hU]; exact hPc, va_K.moved hW.alike hKc, hDc.weaken (fun _ _ _ _ => trivial)⟩⟩ rfl rfl hl.1 rfl (lv_room (Nat.le_of_ble_eq_true rfl)) dX6_item_152 ⟨Nat.le_of_ble_eq_true rfl, Nat.le_of_ble_eq_true rfl⟩) hS (fun q _ h => hFc q h) hFc (fun r100 u t H1 locs ht hvm hw hB hz1 hk1 hS => ?_)
      obtain ⟨q101, q102, q103, q104, x3_r100, x4_r100, hP1, hK1, hD1⟩ := hB
      rw [ht] at hP1
      have hK1 := va_K.moved hvm.symm hK1
      try dsimp only at hw
      obtain ⟨hP, hD⟩ := J_s (wL := [eR qk kk 9 fo, eI ro0 kr0 8 fr0, eI ro1 kr1 8 fr1, eI ro2 kr2 8 fr2, eI ro3 kr3 8 fr3, eI ro4 kr4 8 fr4, eI ro5 kr5 8 fr5, eI ro6 kr6 8 fr6, eI ro7 kr7 8 fr7, eI ro8 kr8 8 fr8, eL qf kf 9 ff, eI aq3 ak3 8 ag3, eI aq4 ak4 8 ag4, eI aq5 ak5 8 ag5, eI aq6 ak6 8 ag6, eO h0 5 [.ref jb, .ref qm, .int q102, .ref qh, .ref qk, .ref qf, .int z2, .ref jp], eI qm km 60 q101, eI qh kh 8 fh, eO jb 0 [.ref aq0, .ref aq1, .ref aq2, .ref aq3, .ref aq4, .ref aq5, .ref aq6, .int aacc, .long q104, .int amis, .int abel, .int aref, .int acau], eI aq0 ak0 8 ag0, eI aq1 ak1 8 q103, eI aq2 ak2 8 ag2, eO jp 2 [.ref pb, .ref pn, .int ps], eI pb kpb 80 fpb, eI pn kpn 80 fpn]) hP hD [(0, 3), (14, 4), (23, 2), (22, 1)] [(3, 11), (18, 4)] hCm hNw (by decide +kernel) hk1 hFc hP1 hD1 rfl
      have hK := KJ_s (tys' := [(kk, .array .int), (kr0, .int), (kr1, .int), (kr2, .int), (kr3, .int), (kr4, .int), (kr5, .int), (kr6, .int), (kr7, .int), (kr8, .int), (kf, .long), (ak3, .boolean), (ak4, .int), (ak5, .int), (ak6, .int), (km, .int), (kh, .int), (ak0, .int), (ak1, .int), (ak2, .int), (kpb, .int), (kpn, .int)]) hK hK1 [(2, 11), (16, 4)] rfl
      generalize H1 = H at hP hS ⊢
      rw [hQ9]
      exact W.iret (v := r100) hx hb hr (fun t ht hW => ⟨⟨r100, (), rfl, (by first | rfl | trivial), q101, fh, fr0, fr1, fr2, fr3, fr4, fr5, fr6, fr7, fr8, ff, q102, z2, q103, ag4, ag5, ag6, q104, amis, abel, aref, acau, (by first | assumption | omega), (by first | assumption | omega), (by first | assumption | omega), (by first | assumption | omega), by rw [ht]; exact P_s hP [(15, 3), (0, 11), (18, 4), (11, 4), (22, 3)] rfl, va_K.moved hW.alike (K_s hK [(15, 2), (0, 11), (17, 3), (11, 4), (20, 2)] rfl), D_s hD [(15, 3), (0, 11), (18, 4), (11, 4), (22, 3)] 25 rfl (by decide +kernel) rfl⟩, hS.F ht⟩) hS.2.2 dX6_item_155
    have f_c99 := i_ne c99
    rcases Decidable.em (r3 = 120) with c105 | c105
    · refine lv_lookup (off := 126) (tgt := 156) hx hb dX6_item_30 (by decide) (by rw [c105]; decide) (by decide) ?_
      have f_c105 := i_eq c105
      refine lv_iconst (v := 4) hx hb dX6_item_156 (by decide) ?_
      rw [hQ9]
      exact W.iret (v := 4) hx hb hr (fun t ht hW => ⟨⟨4, (), rfl, (by first | rfl | trivial), fm, fh, fr0, fr1, fr2, fr3, fr4, fr5, fr6, fr7, fr8, ff, mc, z2, ag1, ag4, ag5, ag6, afees, amis, abel, aref, acau, (by first | assumption | omega), (by first | assumption | omega), (by first | assumption | omega), (by first | assumption | omega), by rw [ht]; exact P_s hP [(0, 22), (23, 2), (22, 1)] rfl, va_K.moved hW.alike (K_s hK [(0, 20), (21, 1), (20, 1)] rfl), D_s hD [(0, 22), (23, 2), (22, 1)] 25 rfl (by decide +kernel) rfl⟩, hS.F ht⟩) hS.2.2 dX6_item_157
    have f_c105 := i_ne c105
    rcases Decidable.em (r3 = 123) with c106 | c106
    · refine lv_lookup (off := 113) (tgt := 143) hx hb dX6_item_30 (by decide) (by rw [c106]; decide) (by decide) ?_
      have f_c106 := i_eq c106
      refine lv_aload_n hx hb dX6_item_143 rfl (lv_at hl 0 rfl) ?_
      refine lv_iload_n hx hb dX6_item_144 rfl (lv_at hl 1 rfl) ?_
      refine lv_iload_n hx hb dX6_item_145 rfl (lv_at hl 2 rfl) ?_
      obtain ⟨hPc, hDc, hFc, hCm, hNw⟩ := C_s (wc := [eO h0 5 [.ref jb, .ref qm, .int mc, .ref qh, .ref qk, .ref qf, .int z2, .ref jp], eI qm km 60 fm, eI qh kh 8 fh, eR qk kk 9 fo, eI ro0 kr0 8 fr0, eI ro1 kr1 8 fr1, eI ro2 kr2 8 fr2, eI ro3 kr3 8 fr3, eI ro4 kr4 8 fr4, eI ro5 kr5 8 fr5, eI ro6 kr6 8 fr6, eI ro7 kr7 8 fr7, eI ro8 kr8 8 fr8, eL qf kf 9 ff, eO jb 0 [.ref aq0, .ref aq1, .ref aq2, .ref aq3, .ref aq4, .ref aq5, .ref aq6, .int aacc, .long afees, .int amis, .int abel, .int aref, .int acau], eI aq0 ak0 8 ag0, eI aq1 ak1 8 ag1, eI aq2 ak2 8 ag2, eI aq3 ak3 8 ag3, eI aq4 ak4 8 ag4, eI aq5 ak5 8 ag5, eI aq6 ak6 8 ag6, eO jp 2 [.ref pb, .ref pn, .int ps], eI pb kpb 80 fpb, eI pn kpn 80 fpn]) hP hD hS hA [(0, 22), (23, 2), (22, 1)] 25 rfl (by decide +kernel) rfl
      have hKc := K_s (tys' := [(km, .int), (kh, .int), (kk, .array .int), (kr0, .int), (kr1, .int), (kr2, .int), (kr3, .int), (kr4, .int), (kr5, .int), (kr6, .int), (kr7, .int), (kr8, .int), (kf, .long), (ak0, .int), (ak1, .int), (ak2, .int), (ak3, .boolean), (ak4, .int), (ak5, .int), (ak6, .int), (kpb, .int), (kpn, .int)]) hK [(0, 20), (21, 1), (20, 1)] rfl
      refine va_calli (va_runV (As := [.int p0, .int dp]) (rest := []) ⟨hx, hb, hml, hown, hts⟩ (c_X6_loop l dC dI h0 p0 dp jb qm mc qh qk qf z2 jp km fm kh fh kk fo ro0 kr0 fr0 ro1 kr1 fr1 ro2 kr2 fr2 ro3 kr3 fr3 ro4 kr4 fr4 ro5 kr5 fr5 ro6 kr6 fr6 ro7 kr7 fr7 ro8 kr8 fr8 kf ff aq0 aq1 aq2 aq3 aq4 aq5 aq6 aacc afees amis abel aref acau ak0 ag0 ak1 ag1 ak2 ag2 ak3 ag3 ak4 ag4 ak5 ag5 ak6 ag6 pb pn ps kpb fpb kpn fpn nd H.size ra1 ra2 hp1 hp2 hb0 hf0 hf1 hf2 hf3 hf4 hf5 hf6 hf7 hf8 (by first | assumption | omega) (by first | assumption | omega) rb3 (by first | assumption | omega) pl1 pl2 hd0 hdn ih) (cwV 2 hts gX6_item_X6_loop rfl rfl rfl (by decide +kernel) ⟨(show (10 * nd + 8) + 1 ≤ 10 * nd + 9 by omega), (show 8 + (6 + 11) + (200 * nd + 120) ≤ 200 * nd + 160 by omega)⟩) ⟨fun a U g mk q => by obtain ⟨q0, q1, qP, qK, qD⟩ := q; exact ⟨q0, q1, qP, va_K.moved (u := U) (U := U.calling g mk a) (Vm.Alike.refl U.vm) qK, qD⟩, va_recv (s := s) (q := (RX6, TX6, 8)) hKc hPc (ci := 5) (q0 := 0) rfl rfl, fun U hU hW => ⟨rfl, by rw [hU], by rw [hU]; exact hPc, va_K.moved hW.alike hKc, hDc.weaken (fun _ _ _ _ => trivial)⟩⟩ rfl rfl hl.1 rfl (lv_room (Nat.le_of_ble_eq_true rfl)) dX6_item_146 ⟨Nat.le_of_ble_eq_true rfl, Nat.le_of_ble_eq_true rfl⟩) hS (fun q _ h => hFc q h) hFc (fun r107 u t H1 locs ht hvm hw hB hz1 hk1 hS => ?_)
      refine Exists.elim hB ?_; clear hB; intro q108 hB
      refine Exists.elim hB ?_; clear hB; intro q109 hB
      refine Exists.elim hB ?_; clear hB; intro q110 hB
      refine Exists.elim hB ?_; clear hB; intro q111 hB
      refine Exists.elim hB ?_; clear hB; intro q112 hB
      refine Exists.elim hB ?_; clear hB; intro q113 hB
      refine Exists.elim hB ?_; clear hB; intro q114 hB
      refine Exists.elim hB ?_; clear hB; intro q115 hB
      refine Exists.elim hB ?_; clear hB; intro q116 hB
      refine Exists.elim hB ?_; clear hB; intro q117 hB
      refine Exists.elim hB ?_; clear hB; intro q118 hB
      refine Exists.elim hB ?_; clear hB; intro q119 hB
      refine Exists.elim hB ?_; clear hB; intro q120 hB
      refine Exists.elim hB ?_; clear hB; intro q121 hB
      refine Exists.elim hB ?_; clear hB; intro q122 hB
      refine Exists.elim hB ?_; clear hB; intro q123 hB
      refine Exists.elim hB ?_; clear hB; intro q124 hB
      refine Exists.elim hB ?_; clear hB; intro q125 hB
      refine Exists.elim hB ?_; clear hB; intro q126 hB
      refine Exists.elim hB ?_; clear hB; intro q127 hB
      refine Exists.elim hB ?_; clear hB; intro q128 hB
      refine Exists.elim hB ?_; clear hB; intro q129 hB
      refine Exists.elim hB ?_; clear hB; intro q130 hB
      have x1_r107 := hB.1
      replace hB := hB.2
      have x2_r107 := hB.1
      replace hB := hB.2
      have x3_r107 := hB.1
      replace hB := hB.2
      have x4_r107 := hB.1
      replace hB := hB.2
      obtain ⟨hP1, hK1, hD1⟩ := hB
      rw [ht] at hP1
      have hK1 := va_K.moved hvm.symm hK1
      try dsimp only at hw
      obtain ⟨hP, hD⟩ := J_s (wL := [eO h0 5 [.ref jb, .ref qm, .int q120, .ref qh, .ref qk, .ref qf, .int q121, .ref jp], eI qm km 60 q108, eI qh kh 8 q109, eR qk kk 9 fo, eI ro0 kr0 8 q110, eI ro1 kr1 8 q111, eI ro2 kr2 8 q112, eI ro3 kr3 8 q113, eI ro4 kr4 8 q114, eI ro5 kr5 8 q115, eI ro6 kr6 8 q116, eI ro7 kr7 8 q117, eI ro8 kr8 8 q118, eL qf kf 9 q119, eO jb 0 [.ref aq0, .ref aq1, .ref aq2, .ref aq3, .ref aq4, .ref aq5, .ref aq6, .int aacc, .long q126, .int q127, .int q128, .int q129, .int q130], eI aq0 ak0 8 ag0, eI aq1 ak1 8 q122, eI aq2 ak2 8 ag2, eI aq3 ak3 8 ag3, eI aq4 ak4 8 q123, eI aq5 ak5 8 q124, eI aq6 ak6 8 q125, eO jp 2 [.ref pb, .ref pn, .int ps], eI pb kpb 80 fpb, eI pn kpn 80 fpn]) hP hD [(0, 22), (23, 2), (22, 1)] [] hCm hNw (by decide +kernel) hk1 hFc hP1 hD1 rfl
      have hK := KJ_s (tys' := [(km, .int), (kh, .int), (kk, .array .int), (kr0, .int), (kr1, .int), (kr2, .int), (kr3, .int), (kr4, .int), (kr5, .int), (kr6, .int), (kr7, .int), (kr8, .int), (kf, .long), (ak0, .int), (ak1, .int), (ak2, .int), (ak3, .boolean), (ak4, .int), (ak5, .int), (ak6, .int), (kpb, .int), (kpn, .int)]) hK hK1 [] rfl
      generalize H1 = H at hP hS ⊢
      rw [hQ9]
      exact W.iret (v := r107) hx hb hr (fun t ht hW => ⟨⟨r107, (), rfl, (by first | rfl | trivial), q108, q109, q110, q111, q112, q113, q114, q115, q116, q117, q118, q119, q120, q121, q122, q123, q124, q125, q126, q127, q128, q129, q130, (by first | assumption | omega), (by first | assumption | omega), (by first | assumption | omega), (by first | assumption | omega), by rw [ht]; exact hP, va_K.moved hW.alike hK, hD⟩, hS.F ht⟩) hS.2.2 dX6_item_149
    have f_c106 := i_ne c106
    refine lv_lookup (off := 166) (tgt := 196) hx hb dX6_item_30 (by decide) (by rw [lv_osw c4 (by decide), lv_osw c29 (by decide), lv_osw c54 (by decide), lv_osw c79 (by decide), lv_osw c88 (by decide), lv_osw c89 (by decide), lv_osw c90 (by decide), lv_osw c99 (by decide), lv_osw c105 (by decide), lv_osw c106 (by decide)]; rfl) (by decide) ?_
    refine lv_iconst (v := 0) hx hb dX6_item_196 (by decide) ?_
    rw [hQ9]
    exact W.iret (v := 0) hx hb hr (fun t ht hW => ⟨⟨0, (), rfl, (by first | rfl | trivial), fm, fh, fr0, fr1, fr2, fr3, fr4, fr5, fr6, fr7, fr8, ff, mc, z2, ag1, ag4, ag5, ag6, afees, amis, abel, aref, acau, (by first | assumption | omega), (by first | assumption | omega), (by first | assumption | omega), (by first | assumption | omega), by rw [ht]; exact P_s hP [(0, 22), (23, 2), (22, 1)] rfl, va_K.moved hW.alike (K_s hK [(0, 20), (21, 1), (20, 1)] rfl), D_s hD [(0, 22), (23, 2), (22, 1)] 25 rfl (by decide +kernel) rfl⟩, hS.F ht⟩) hS.2.2 dX6_item_197
  · skip
    have f_c1 := i_nlt c1
    refine lv_iconst (v := 5) hx hb dX6_item_10 (by decide) ?_
    rw [hQ9]
    exact W.iret (v := 5) hx hb hr (fun t ht hW => ⟨⟨5, (), rfl, (by first | rfl | trivial), fm, fh, fr0, fr1, fr2, fr3, fr4, fr5, fr6, fr7, fr8, ff, mc, bg, ag1, ag4, ag5, ag6, afees, amis, abel, aref, acau, (by first | assumption | omega), (by first | assumption | omega), (by first | assumption | omega), (by first | assumption | omega), by rw [ht]; exact hP, va_K.moved hW.alike hK, hD⟩, hS.F ht⟩) hS.2.2 dX6_item_11

set_option maxRecDepth 100000 in
set_option maxHeartbeats 4000000 in
/-- Runner.items -/
theorem c_X6_items (l : Launch) (dC : Nat → ClassId) (dI : Nat → Nat → Nat) (h0 : Nat) (p0 : Int32) (p1 : Int32) (dp : Int32) (jb : Nat) (qm : Nat) (mc : Int32) (qh : Nat) (qk : Nat) (qf : Nat) (bg : Int32) (jp : Nat) (km : ClassId) (fm : Nat → Int32) (kh : ClassId) (fh : Nat → Int32) (kk : ClassId) (fo : Nat → Option Nat) (ro0 : Nat) (kr0 : ClassId) (fr0 : Nat → Int32) (ro1 : Nat) (kr1 : ClassId) (fr1 : Nat → Int32) (ro2 : Nat) (kr2 : ClassId) (fr2 : Nat → Int32) (ro3 : Nat) (kr3 : ClassId) (fr3 : Nat → Int32) (ro4 : Nat) (kr4 : ClassId) (fr4 : Nat → Int32) (ro5 : Nat) (kr5 : ClassId) (fr5 : Nat → Int32) (ro6 : Nat) (kr6 : ClassId) (fr6 : Nat → Int32) (ro7 : Nat) (kr7 : ClassId) (fr7 : Nat → Int32) (ro8 : Nat) (kr8 : ClassId) (fr8 : Nat → Int32) (kf : ClassId) (ff : Nat → Int64) (aq0 : Nat) (aq1 : Nat) (aq2 : Nat) (aq3 : Nat) (aq4 : Nat) (aq5 : Nat) (aq6 : Nat) (aacc : Int32) (afees : Int64) (amis : Int32) (abel : Int32) (aref : Int32) (acau : Int32) (ak0 : ClassId) (ag0 : Nat → Int32) (ak1 : ClassId) (ag1 : Nat → Int32) (ak2 : ClassId) (ag2 : Nat → Int32) (ak3 : ClassId) (ag3 : Nat → Int32) (ak4 : ClassId) (ag4 : Nat → Int32) (ak5 : ClassId) (ag5 : Nat → Int32) (ak6 : ClassId) (ag6 : Nat → Int32) (pb : Nat) (pn : Nat) (ps : Int32) (kpb : ClassId) (fpb : Nat → Int32) (kpn : ClassId) (fpn : Nat → Int32) (nd : Nat) (sz : Nat) (ra1 : 0 ≤ aacc.toInt) (ra2 : aacc.toInt ≤ 8) (hp1 : 0 ≤ ps.toInt) (hp2 : ps.toInt ≤ 80) (hb0 : ∀ k : Nat, 0 ≤ (fpn k).toInt ∧ (fpn k).toInt ≤ 80) (hf0 : fo 0 = some ro0) (hf1 : fo 1 = some ro1) (hf2 : fo 2 = some ro2) (hf3 : fo 3 = some ro3) (hf4 : fo 4 = some ro4) (hf5 : fo 5 = some ro5) (hf6 : fo 6 = some ro6) (hf7 : fo 7 = some ro7) (hf8 : fo 8 = some ro8) (rb1 : 0 ≤ bg.toInt) (rb2 : bg.toInt ≤ 500) (rb3 : 0 ≤ mc.toInt) (rb4 : mc.toInt + 2 * (500 - bg.toInt) ≤ 1100) (pl1 : 0 ≤ p0.toInt) (pl2 : p0.toInt ≤ 95) (pl3 : p1.toInt ≤ 80) (hd0 : 0 ≤ dp.toInt) (hdn : dp.toInt + (nd : Int) = 8) (ih : ∀ m : Nat, m + 1 = nd → KI l dC dI m) : Met l yX6_items wsX6_items ({ frames := 10 * nd + 10, cells := 0, slots := 0, locals := 200 * nd + 200 }) (va_Pc [.ref h0, .int p0, .int p1, .int dp] (fun U => U.heap.size = sz ∧ va_P (dC, dI) vwCl [eO h0 5 [.ref jb, .ref qm, .int mc, .ref qh, .ref qk, .ref qf, .int bg, .ref jp], eI qm km 60 fm, eI qh kh 8 fh, eR qk kk 9 fo, eI ro0 kr0 8 fr0, eI ro1 kr1 8 fr1, eI ro2 kr2 8 fr2, eI ro3 kr3 8 fr3, eI ro4 kr4 8 fr4, eI ro5 kr5 8 fr5, eI ro6 kr6 8 fr6, eI ro7 kr7 8 fr7, eI ro8 kr8 8 fr8, eL qf kf 9 ff, eO jb 0 [.ref aq0, .ref aq1, .ref aq2, .ref aq3, .ref aq4, .ref aq5, .ref aq6, .int aacc, .long afees, .int amis, .int abel, .int aref, .int acau], eI aq0 ak0 8 ag0, eI aq1 ak1 8 ag1, eI aq2 ak2 8 ag2, eI aq3 ak3 8 ag3, eI aq4 ak4 8 ag4, eI aq5 ak5 8 ag5, eI aq6 ak6 8 ag6, eO jp 2 [.ref pb, .ref pn, .int ps], eI pb kpb 80 fpb, eI pn kpn 80 fpn] U.heap ∧ va_K (dC, dI) vwCl [(km, .int), (kh, .int), (kk, .array .int), (kr0, .int), (kr1, .int), (kr2, .int), (kr3, .int), (kr4, .int), (kr5, .int), (kr6, .int), (kr7, .int), (kr8, .int), (kf, .long), (ak0, .int), (ak1, .int), (ak2, .int), (ak3, .boolean), (ak4, .int), (ak5, .int), (ak6, .int), (kpb, .int), (kpn, .int)] U ∧ va_D (fun _ => True) [eO h0 5 [.ref jb, .ref qm, .int mc, .ref qh, .ref qk, .ref qf, .int bg, .ref jp], eI qm km 60 fm, eI qh kh 8 fh, eR qk kk 9 fo, eI ro0 kr0 8 fr0, eI ro1 kr1 8 fr1, eI ro2 kr2 8 fr2, eI ro3 kr3 8 fr3, eI ro4 kr4 8 fr4, eI ro5 kr5 8 fr5, eI ro6 kr6 8 fr6, eI ro7 kr7 8 fr7, eI ro8 kr8 8 fr8, eL qf kf 9 ff, eO jb 0 [.ref aq0, .ref aq1, .ref aq2, .ref aq3, .ref aq4, .ref aq5, .ref aq6, .int aacc, .long afees, .int amis, .int abel, .int aref, .int acau], eI aq0 ak0 8 ag0, eI aq1 ak1 8 ag1, eI aq2 ak2 8 ag2, eI aq3 ak3 8 ag3, eI aq4 ak4 8 ag4, eI aq5 ak5 8 ag5, eI aq6 ak6 8 ag6, eO jp 2 [.ref pb, .ref pn, .int ps], eI pb kpb 80 fpb, eI pn kpn 80 fpn])) (va_Qi (fun (r : Int32) (_ : Unit) => True) (fun (_ : Unit) (t : State) => ∃ (fm' : Nat → Int32), ∃ (fh' : Nat → Int32), ∃ (fr0' : Nat → Int32), ∃ (fr1' : Nat → Int32), ∃ (fr2' : Nat → Int32), ∃ (fr3' : Nat → Int32), ∃ (fr4' : Nat → Int32), ∃ (fr5' : Nat → Int32), ∃ (fr6' : Nat → Int32), ∃ (fr7' : Nat → Int32), ∃ (fr8' : Nat → Int32), ∃ (ff' : Nat → Int64), ∃ (mc' : Int32), ∃ (bg' : Int32), ∃ (ag1' : Nat → Int32), ∃ (ag4' : Nat → Int32), ∃ (ag5' : Nat → Int32), ∃ (ag6' : Nat → Int32), ∃ (afees' : Int64), ∃ (amis' : Int32), ∃ (abel' : Int32), ∃ (aref' : Int32), ∃ (acau' : Int32), (bg.toInt ≤ bg'.toInt) ∧ (bg'.toInt ≤ 500) ∧ (0 ≤ mc'.toInt) ∧ (mc'.toInt + 2 * (500 - bg'.toInt) ≤ mc.toInt + 2 * (500 - bg.toInt) + 0) ∧ va_P (dC, dI) vwCl [eO h0 5 [.ref jb, .ref qm, .int mc', .ref qh, .ref qk, .ref qf, .int bg', .ref jp], eI qm km 60 (fm'), eI qh kh 8 (fh'), eR qk kk 9 fo, eI ro0 kr0 8 (fr0'), eI ro1 kr1 8 (fr1'), eI ro2 kr2 8 (fr2'), eI ro3 kr3 8 (fr3'), eI ro4 kr4 8 (fr4'), eI ro5 kr5 8 (fr5'), eI ro6 kr6 8 (fr6'), eI ro7 kr7 8 (fr7'), eI ro8 kr8 8 (fr8'), eL qf kf 9 (ff'), eO jb 0 [.ref aq0, .ref aq1, .ref aq2, .ref aq3, .ref aq4, .ref aq5, .ref aq6, .int aacc, .long afees', .int amis', .int abel', .int aref', .int acau'], eI aq0 ak0 8 ag0, eI aq1 ak1 8 (ag1'), eI aq2 ak2 8 ag2, eI aq3 ak3 8 ag3, eI aq4 ak4 8 (ag4'), eI aq5 ak5 8 (ag5'), eI aq6 ak6 8 (ag6'), eO jp 2 [.ref pb, .ref pn, .int ps], eI pb kpb 80 fpb, eI pn kpn 80 fpn] t.heap ∧ va_K (dC, dI) vwCl [(km, .int), (kh, .int), (kk, .array .int), (kr0, .int), (kr1, .int), (kr2, .int), (kr3, .int), (kr4, .int), (kr5, .int), (kr6, .int), (kr7, .int), (kr8, .int), (kf, .long), (ak0, .int), (ak1, .int), (ak2, .int), (ak3, .boolean), (ak4, .int), (ak5, .int), (ak6, .int), (kpb, .int), (kpn, .int)] t ∧ va_D (va_A [eO h0 5 [.ref jb, .ref qm, .int mc, .ref qh, .ref qk, .ref qf, .int bg, .ref jp], eI qm km 60 fm, eI qh kh 8 fh, eR qk kk 9 fo, eI ro0 kr0 8 fr0, eI ro1 kr1 8 fr1, eI ro2 kr2 8 fr2, eI ro3 kr3 8 fr3, eI ro4 kr4 8 fr4, eI ro5 kr5 8 fr5, eI ro6 kr6 8 fr6, eI ro7 kr7 8 fr7, eI ro8 kr8 8 fr8, eL qf kf 9 ff, eO jb 0 [.ref aq0, .ref aq1, .ref aq2, .ref aq3, .ref aq4, .ref aq5, .ref aq6, .int aacc, .long afees, .int amis, .int abel, .int aref, .int acau], eI aq0 ak0 8 ag0, eI aq1 ak1 8 ag1, eI aq2 ak2 8 ag2, eI aq3 ak3 8 ag3, eI aq4 ak4 8 ag4, eI aq5 ak5 8 ag5, eI aq6 ak6 8 ag6, eO jp 2 [.ref pb, .ref pn, .int ps], eI pb kpb 80 fpb, eI pn kpn 80 fpn] sz) [eO h0 5 [.ref jb, .ref qm, .int mc', .ref qh, .ref qk, .ref qf, .int bg', .ref jp], eI qm km 60 (fm'), eI qh kh 8 (fh'), eR qk kk 9 fo, eI ro0 kr0 8 (fr0'), eI ro1 kr1 8 (fr1'), eI ro2 kr2 8 (fr2'), eI ro3 kr3 8 (fr3'), eI ro4 kr4 8 (fr4'), eI ro5 kr5 8 (fr5'), eI ro6 kr6 8 (fr6'), eI ro7 kr7 8 (fr7'), eI ro8 kr8 8 (fr8'), eL qf kf 9 (ff'), eO jb 0 [.ref aq0, .ref aq1, .ref aq2, .ref aq3, .ref aq4, .ref aq5, .ref aq6, .int aacc, .long afees', .int amis', .int abel', .int aref', .int acau'], eI aq0 ak0 8 ag0, eI aq1 ak1 8 (ag1'), eI aq2 ak2 8 ag2, eI aq3 ak3 8 ag3, eI aq4 ak4 8 (ag4'), eI aq5 ak5 8 (ag5'), eI aq6 ak6 8 (ag6'), eO jp 2 [.ref pb, .ref pn, .int ps], eI pb kpb 80 fpb, eI pn kpn 80 fpn]) (va_A [eO h0 5 [.ref jb, .ref qm, .int mc, .ref qh, .ref qk, .ref qf, .int bg, .ref jp], eI qm km 60 fm, eI qh kh 8 fh, eR qk kk 9 fo, eI ro0 kr0 8 fr0, eI ro1 kr1 8 fr1, eI ro2 kr2 8 fr2, eI ro3 kr3 8 fr3, eI ro4 kr4 8 fr4, eI ro5 kr5 8 fr5, eI ro6 kr6 8 fr6, eI ro7 kr7 8 fr7, eI ro8 kr8 8 fr8, eL qf kf 9 ff, eO jb 0 [.ref aq0, .ref aq1, .ref aq2, .ref aq3, .ref aq4, .ref aq5, .ref aq6, .int aacc, .long afees, .int amis, .int abel, .int aref, .int acau], eI aq0 ak0 8 ag0, eI aq1 ak1 8 ag1, eI aq2 ak2 8 ag2, eI aq3 ak3 8 ag3, eI aq4 ak4 8 ag4, eI aq5 ak5 8 ag5, eI aq6 ak6 8 ag6, eO jp 2 [.ref pb, .ref pn, .int ps], eI pb kpb 80 fpb, eI pn kpn 80 fpn] sz)) 0 0 (va_A [eO h0 5 [.ref jb, .ref qm, .int mc, .ref qh, .ref qk, .ref qf, .int bg, .ref jp], eI qm km 60 fm, eI qh kh 8 fh, eR qk kk 9 fo, eI ro0 kr0 8 fr0, eI ro1 kr1 8 fr1, eI ro2 kr2 8 fr2, eI ro3 kr3 8 fr3, eI ro4 kr4 8 fr4, eI ro5 kr5 8 fr5, eI ro6 kr6 8 fr6, eI ro7 kr7 8 fr7, eI ro8 kr8 8 fr8, eL qf kf 9 ff, eO jb 0 [.ref aq0, .ref aq1, .ref aq2, .ref aq3, .ref aq4, .ref aq5, .ref aq6, .int aacc, .long afees, .int amis, .int abel, .int aref, .int acau], eI aq0 ak0 8 ag0, eI aq1 ak1 8 ag1, eI aq2 ak2 8 ag2, eI aq3 ak3 8 ag3, eI aq4 ak4 8 ag4, eI aq5 ak5 8 ag5, eI aq6 ak6 8 ag6, eO jp 2 [.ref pb, .ref pn, .int ps], eI pb kpb 80 fpb, eI pn kpn 80 fpn] sz) := by
  refine Met.ofW (cc := cX6_items) (maxL := 6) (ret := (some .int)) (by decide) rfl ?_
  intro p e s m args below meth c s₁ B hml hv
  obtain ⟨rfl, hsz, hP, hK, hD0⟩ := hv
  have hx := B.exec
  have hb := B.bytes
  have hr := B.returns
  have hts := atoms_spec (ws := wsX6_items) B.pre
  have hown : s.vm.findClass RX6 = some m.cls := findClass_of_methodNamed B.named
  have hlocks := B.notSynchronized
  subst hsz
  have hD := hD0.self (sz := s.heap.size)
  generalize hAe : va_A [eO h0 5 [.ref jb, .ref qm, .int mc, .ref qh, .ref qk, .ref qf, .int bg, .ref jp], eI qm km 60 fm, eI qh kh 8 fh, eR qk kk 9 fo, eI ro0 kr0 8 fr0, eI ro1 kr1 8 fr1, eI ro2 kr2 8 fr2, eI ro3 kr3 8 fr3, eI ro4 kr4 8 fr4, eI ro5 kr5 8 fr5, eI ro6 kr6 8 fr6, eI ro7 kr7 8 fr7, eI ro8 kr8 8 fr8, eL qf kf 9 ff, eO jb 0 [.ref aq0, .ref aq1, .ref aq2, .ref aq3, .ref aq4, .ref aq5, .ref aq6, .int aacc, .long afees, .int amis, .int abel, .int aref, .int acau], eI aq0 ak0 8 ag0, eI aq1 ak1 8 ag1, eI aq2 ak2 8 ag2, eI aq3 ak3 8 ag3, eI aq4 ak4 8 ag4, eI aq5 ak5 8 ag5, eI aq6 ak6 8 ag6, eO jp 2 [.ref pb, .ref pn, .int ps], eI pb kpb 80 fpb, eI pn kpn 80 fpn] s.heap.size = A at hD ⊢
  have hA : ∀ q : Nat, s.heap.size ≤ q → A q := fun q h => by rw [← hAe]; exact Or.inr h
  have hS : va_S A s.heap s.heap [] := va_S.rf
  have hP : va_P (dC, dI) vwCl [eO h0 5 [.ref jb, .ref qm, .int mc, .ref qh, .ref qk, .ref qf, .int bg, .ref jp], eI qm km 60 fm, eI qh kh 8 fh, eR qk kk 9 fo, eI ro0 kr0 8 fr0, eI ro1 kr1 8 fr1, eI ro2 kr2 8 fr2, eI ro3 kr3 8 fr3, eI ro4 kr4 8 fr4, eI ro5 kr5 8 fr5, eI ro6 kr6 8 fr6, eI ro7 kr7 8 fr7, eI ro8 kr8 8 fr8, eL qf kf 9 ff, eO jb 0 [.ref aq0, .ref aq1, .ref aq2, .ref aq3, .ref aq4, .ref aq5, .ref aq6, .int aacc, .long afees, .int amis, .int abel, .int aref, .int acau], eI aq0 ak0 8 ag0, eI aq1 ak1 8 ag1, eI aq2 ak2 8 ag2, eI aq3 ak3 8 ag3, eI aq4 ak4 8 ag4, eI aq5 ak5 8 ag5, eI aq6 ak6 8 ag6, eO jp 2 [.ref pb, .ref pn, .int ps], eI pb kpb 80 fpb, eI pn kpn 80 fpn] s.heap := hP
  have hl := lv_entry ([.ref h0, .int p0, .int p1, .int dp]) (n := 6) (Nat.le_of_ble_eq_true rfl)
  rw [lg_entry_eq]
  generalize (lg_sl ([.ref h0, .int p0, .int p1, .int dp]) ++ List.replicate (6 - (lg_sl ([.ref h0, .int p0, .int p1, .int dp])).length) Slot.unset).toArray = ls at hl ⊢
  have hl : lv_has ls 6 [(0, .ref h0), (1, .int p0), (2, .int p1), (3, .int dp)] := hl
  suffices key9 : ∀ Q9 : State → Prop, Q9 = (MQ below (va_Qi (fun (r : Int32) (_ : Unit) => True) (fun (_ : Unit) (t : State) => ∃ (fm' : Nat → Int32), ∃ (fh' : Nat → Int32), ∃ (fr0' : Nat → Int32), ∃ (fr1' : Nat → Int32), ∃ (fr2' : Nat → Int32), ∃ (fr3' : Nat → Int32), ∃ (fr4' : Nat → Int32), ∃ (fr5' : Nat → Int32), ∃ (fr6' : Nat → Int32), ∃ (fr7' : Nat → Int32), ∃ (fr8' : Nat → Int32), ∃ (ff' : Nat → Int64), ∃ (mc' : Int32), ∃ (bg' : Int32), ∃ (ag1' : Nat → Int32), ∃ (ag4' : Nat → Int32), ∃ (ag5' : Nat → Int32), ∃ (ag6' : Nat → Int32), ∃ (afees' : Int64), ∃ (amis' : Int32), ∃ (abel' : Int32), ∃ (aref' : Int32), ∃ (acau' : Int32), (bg.toInt ≤ bg'.toInt) ∧ (bg'.toInt ≤ 500) ∧ (0 ≤ mc'.toInt) ∧ (mc'.toInt + 2 * (500 - bg'.toInt) ≤ mc.toInt + 2 * (500 - bg.toInt) + 0) ∧ va_P (dC, dI) vwCl [eO h0 5 [.ref jb, .ref qm, .int mc', .ref qh, .ref qk, .ref qf, .int bg', .ref jp], eI qm km 60 (fm'), eI qh kh 8 (fh'), eR qk kk 9 fo, eI ro0 kr0 8 (fr0'), eI ro1 kr1 8 (fr1'), eI ro2 kr2 8 (fr2'), eI ro3 kr3 8 (fr3'), eI ro4 kr4 8 (fr4'), eI ro5 kr5 8 (fr5'), eI ro6 kr6 8 (fr6'), eI ro7 kr7 8 (fr7'), eI ro8 kr8 8 (fr8'), eL qf kf 9 (ff'), eO jb 0 [.ref aq0, .ref aq1, .ref aq2, .ref aq3, .ref aq4, .ref aq5, .ref aq6, .int aacc, .long afees', .int amis', .int abel', .int aref', .int acau'], eI aq0 ak0 8 ag0, eI aq1 ak1 8 (ag1'), eI aq2 ak2 8 ag2, eI aq3 ak3 8 ag3, eI aq4 ak4 8 (ag4'), eI aq5 ak5 8 (ag5'), eI aq6 ak6 8 (ag6'), eO jp 2 [.ref pb, .ref pn, .int ps], eI pb kpb 80 fpb, eI pn kpn 80 fpn] t.heap ∧ va_K (dC, dI) vwCl [(km, .int), (kh, .int), (kk, .array .int), (kr0, .int), (kr1, .int), (kr2, .int), (kr3, .int), (kr4, .int), (kr5, .int), (kr6, .int), (kr7, .int), (kr8, .int), (kf, .long), (ak0, .int), (ak1, .int), (ak2, .int), (ak3, .boolean), (ak4, .int), (ak5, .int), (ak6, .int), (kpb, .int), (kpn, .int)] t ∧ va_D A [eO h0 5 [.ref jb, .ref qm, .int mc', .ref qh, .ref qk, .ref qf, .int bg', .ref jp], eI qm km 60 (fm'), eI qh kh 8 (fh'), eR qk kk 9 fo, eI ro0 kr0 8 (fr0'), eI ro1 kr1 8 (fr1'), eI ro2 kr2 8 (fr2'), eI ro3 kr3 8 (fr3'), eI ro4 kr4 8 (fr4'), eI ro5 kr5 8 (fr5'), eI ro6 kr6 8 (fr6'), eI ro7 kr7 8 (fr7'), eI ro8 kr8 8 (fr8'), eL qf kf 9 (ff'), eO jb 0 [.ref aq0, .ref aq1, .ref aq2, .ref aq3, .ref aq4, .ref aq5, .ref aq6, .int aacc, .long afees', .int amis', .int abel', .int aref', .int acau'], eI aq0 ak0 8 ag0, eI aq1 ak1 8 (ag1'), eI aq2 ak2 8 ag2, eI aq3 ak3 8 ag3, eI aq4 ak4 8 (ag4'), eI aq5 ak5 8 (ag5'), eI aq6 ak6 8 (ag6'), eO jp 2 [.ref pb, .ref pn, .int ps], eI pb kpb 80 fpb, eI pn kpn 80 fpn]) A) (([.ref h0, .int p0, .int p1, .int dp] : List Value).toArray) s 0 0 A) → W p l e ({ frames := 10 * nd + 10, cells := 0, slots := 0, locals := 200 * nd + 200 }) s m (([.ref h0, .int p0, .int p1, .int dp] : List Value).toArray) below meth c s.heap [] 0 0 Q9 (F0 m 0 ls []) from key9 _ rfl
  intro Q9 hQ9
  have k_0 : (0 : Int32).toInt = 0 := by decide
  have k_1 : (1 : Int32).toInt = 1 := by decide
  refine lv_iload_n hx hb dX6_items_0 rfl (lv_at hl 1 rfl) ?_
  refine lv_istore (lv' := [(4, .int p0), (0, .ref h0), (1, .int p0), (2, .int p1), (3, .int dp)]) hx hb dX6_items_1 hl (by decide) rfl (fun ls hl => ?_)
  refine lv_iconst (v := 0) hx hb dX6_items_3 (by decide) ?_
  refine lv_istore (lv' := [(5, .int 0), (4, .int p0), (0, .ref h0), (1, .int p0), (2, .int p1), (3, .int dp)]) hx hb dX6_items_4 hl (by decide) rfl (fun ls hl => ?_)
  have loop_6 : ∀ (n : Nat) (x : Int32) (hw_ : Int32) (fmL : Nat → Int32) (fhL : Nat → Int32) (fr0L : Nat → Int32) (fr1L : Nat → Int32) (fr2L : Nat → Int32) (fr3L : Nat → Int32) (fr4L : Nat → Int32) (fr5L : Nat → Int32) (fr6L : Nat → Int32) (fr7L : Nat → Int32) (fr8L : Nat → Int32) (ffL : Nat → Int64) (mcL : Int32) (bgL : Int32) (ag1L : Nat → Int32) (ag4L : Nat → Int32) (ag5L : Nat → Int32) (ag6L : Nat → Int32) (afeesL : Int64) (amisL : Int32) (abelL : Int32) (arefL : Int32) (acauL : Int32), (0 ≤ x.toInt) → (x.toInt ≤ 95) → (bg.toInt ≤ bgL.toInt) → (bgL.toInt ≤ 500) → (0 ≤ mcL.toInt) → (mcL.toInt + 2 * (500 - bgL.toInt) ≤ mc.toInt + 2 * (500 - bg.toInt)) → (100 - x.toInt) < (n : Int) → ∀ (H : Heap) (locs : List Loc), va_K (dC, dI) vwCl [(km, .int), (kh, .int), (kk, .array .int), (kr0, .int), (kr1, .int), (kr2, .int), (kr3, .int), (kr4, .int), (kr5, .int), (kr6, .int), (kr7, .int), (kr8, .int), (kf, .long), (ak0, .int), (ak1, .int), (ak2, .int), (ak3, .boolean), (ak4, .int), (ak5, .int), (ak6, .int), (kpb, .int), (kpn, .int)] s → va_P (dC, dI) vwCl [eO h0 5 [.ref jb, .ref qm, .int mcL, .ref qh, .ref qk, .ref qf, .int bgL, .ref jp], eI qm km 60 fmL, eI qh kh 8 fhL, eR qk kk 9 fo, eI ro0 kr0 8 fr0L, eI ro1 kr1 8 fr1L, eI ro2 kr2 8 fr2L, eI ro3 kr3 8 fr3L, eI ro4 kr4 8 fr4L, eI ro5 kr5 8 fr5L, eI ro6 kr6 8 fr6L, eI ro7 kr7 8 fr7L, eI ro8 kr8 8 fr8L, eL qf kf 9 ffL, eO jb 0 [.ref aq0, .ref aq1, .ref aq2, .ref aq3, .ref aq4, .ref aq5, .ref aq6, .int aacc, .long afeesL, .int amisL, .int abelL, .int arefL, .int acauL], eI aq0 ak0 8 ag0, eI aq1 ak1 8 ag1L, eI aq2 ak2 8 ag2, eI aq3 ak3 8 ag3, eI aq4 ak4 8 ag4L, eI aq5 ak5 8 ag5L, eI aq6 ak6 8 ag6L, eO jp 2 [.ref pb, .ref pn, .int ps], eI pb kpb 80 fpb, eI pn kpn 80 fpn] H → va_D A [eO h0 5 [.ref jb, .ref qm, .int mcL, .ref qh, .ref qk, .ref qf, .int bgL, .ref jp], eI qm km 60 fmL, eI qh kh 8 fhL, eR qk kk 9 fo, eI ro0 kr0 8 fr0L, eI ro1 kr1 8 fr1L, eI ro2 kr2 8 fr2L, eI ro3 kr3 8 fr3L, eI ro4 kr4 8 fr4L, eI ro5 kr5 8 fr5L, eI ro6 kr6 8 fr6L, eI ro7 kr7 8 fr7L, eI ro8 kr8 8 fr8L, eL qf kf 9 ffL, eO jb 0 [.ref aq0, .ref aq1, .ref aq2, .ref aq3, .ref aq4, .ref aq5, .ref aq6, .int aacc, .long afeesL, .int amisL, .int abelL, .int arefL, .int acauL], eI aq0 ak0 8 ag0, eI aq1 ak1 8 ag1L, eI aq2 ak2 8 ag2, eI aq3 ak3 8 ag3, eI aq4 ak4 8 ag4L, eI aq5 ak5 8 ag5L, eI aq6 ak6 8 ag6L, eO jp 2 [.ref pb, .ref pn, .int ps], eI pb kpb 80 fpb, eI pn kpn 80 fpn] → va_S A s.heap H locs → ∀ (ls : Array Slot), lv_has ls 6 [(5, .int hw_), (4, .int x), (0, .ref h0), (1, .int p0), (2, .int p1), (3, .int dp)] → W p l e ({ frames := 10 * nd + 10, cells := 0, slots := 0, locals := 200 * nd + 200 }) s m (([.ref h0, .int p0, .int p1, .int dp] : List Value).toArray) below meth c H locs 0 0 Q9 (F0 m 6 ls []) := by
    intro n
    induction n with
    | zero => intro x hw_ fmL fhL fr0L fr1L fr2L fr3L fr4L fr5L fr6L fr7L fr8L ffL mcL bgL ag1L ag4L ag5L ag6L afeesL amisL abelL arefL acauL l0 l1 l2 l3 l4 l5 hM_6; exfalso; omega
    | succ n ih_6 =>
      intro x hw_ fmL fhL fr0L fr1L fr2L fr3L fr4L fr5L fr6L fr7L fr8L ffL mcL bgL ag1L ag4L ag5L ag6L afeesL amisL abelL arefL acauL l0 l1 l2 l3 l4 l5 hM_6 H locs hK hP hD hS ls hl
      refine lv_iload hx hb dX6_items_6 (lv_at hl 1 rfl) ?_
      refine lv_iload_n hx hb dX6_items_8 rfl (lv_at hl 4 rfl) ?_
      refine lv_icmp_ge (tgt := 47) hx hb dX6_items_9 (by decide) (fun c1 => ?_) (fun c1 => ?_)
      · skip
        have f_c1 := i_le c1
        refine lv_iload hx hb dX6_items_47 (lv_at hl 0 rfl) ?_
        rw [hQ9]
        exact W.iret (v := hw_) hx hb hr (fun t ht hW => ⟨⟨hw_, (), rfl, (by first | rfl | trivial), fmL, fhL, fr0L, fr1L, fr2L, fr3L, fr4L, fr5L, fr6L, fr7L, fr8L, ffL, mcL, bgL, ag1L, ag4L, ag5L, ag6L, afeesL, amisL, abelL, arefL, acauL, (by first | assumption | omega), (by first | assumption | omega), (by first | assumption | omega), (by first | assumption | omega), by rw [ht]; exact hP, va_K.moved hW.alike hK, hD⟩, hS.F ht⟩) hS.2.2 dX6_items_49
      · skip
        have f_c1 := i_nle c1
        refine lv_iload hx hb dX6_items_12 (lv_at hl 0 rfl) ?_
        refine lv_if_ne (tgt := 47) hx hb dX6_items_14 (by decide) (fun c2 => ?_) (fun c2 => ?_)
        · skip
          have f_c2 := i_ne c2
          refine lv_iload hx hb dX6_items_47 (lv_at hl 0 rfl) ?_
          rw [hQ9]
          exact W.iret (v := hw_) hx hb hr (fun t ht hW => ⟨⟨hw_, (), rfl, (by first | rfl | trivial), fmL, fhL, fr0L, fr1L, fr2L, fr3L, fr4L, fr5L, fr6L, fr7L, fr8L, ffL, mcL, bgL, ag1L, ag4L, ag5L, ag6L, afeesL, amisL, abelL, arefL, acauL, (by first | assumption | omega), (by first | assumption | omega), (by first | assumption | omega), (by first | assumption | omega), by rw [ht]; exact hP, va_K.moved hW.alike hK, hD⟩, hS.F ht⟩) hS.2.2 dX6_items_49
        · skip
          have f_c2 := i_eq c2
          refine lv_aload_n hx hb dX6_items_17 rfl (lv_at hl 2 rfl) ?_
          refine lv_iload hx hb dX6_items_18 (lv_at hl 1 rfl) ?_
          refine lv_iload_n hx hb dX6_items_20 rfl (lv_at hl 5 rfl) ?_
          obtain ⟨hPc, hDc, hFc, hCm, hNw⟩ := C_s (wc := [eO h0 5 [.ref jb, .ref qm, .int mcL, .ref qh, .ref qk, .ref qf, .int bgL, .ref jp], eI qm km 60 fmL, eI qh kh 8 fhL, eR qk kk 9 fo, eI ro0 kr0 8 fr0L, eI ro1 kr1 8 fr1L, eI ro2 kr2 8 fr2L, eI ro3 kr3 8 fr3L, eI ro4 kr4 8 fr4L, eI ro5 kr5 8 fr5L, eI ro6 kr6 8 fr6L, eI ro7 kr7 8 fr7L, eI ro8 kr8 8 fr8L, eL qf kf 9 ffL, eO jb 0 [.ref aq0, .ref aq1, .ref aq2, .ref aq3, .ref aq4, .ref aq5, .ref aq6, .int aacc, .long afeesL, .int amisL, .int abelL, .int arefL, .int acauL], eI aq0 ak0 8 ag0, eI aq1 ak1 8 ag1L, eI aq2 ak2 8 ag2, eI aq3 ak3 8 ag3, eI aq4 ak4 8 ag4L, eI aq5 ak5 8 ag5L, eI aq6 ak6 8 ag6L, eO jp 2 [.ref pb, .ref pn, .int ps], eI pb kpb 80 fpb, eI pn kpn 80 fpn]) hP hD hS hA [(0, 25)] 25 rfl (by decide +kernel) rfl
          have hKc := K_s (tys' := [(km, .int), (kh, .int), (kk, .array .int), (kr0, .int), (kr1, .int), (kr2, .int), (kr3, .int), (kr4, .int), (kr5, .int), (kr6, .int), (kr7, .int), (kr8, .int), (kf, .long), (ak0, .int), (ak1, .int), (ak2, .int), (ak3, .boolean), (ak4, .int), (ak5, .int), (ak6, .int), (kpb, .int), (kpn, .int)]) hK [(0, 22)] rfl
          refine va_calli (va_runV (As := [.int x, .int dp]) (rest := []) ⟨hx, hb, hml, hown, hts⟩ (c_X6_item l dC dI h0 x dp jb qm mcL qh qk qf bgL jp km fmL kh fhL kk fo ro0 kr0 fr0L ro1 kr1 fr1L ro2 kr2 fr2L ro3 kr3 fr3L ro4 kr4 fr4L ro5 kr5 fr5L ro6 kr6 fr6L ro7 kr7 fr7L ro8 kr8 fr8L kf ffL aq0 aq1 aq2 aq3 aq4 aq5 aq6 aacc afeesL amisL abelL arefL acauL ak0 ag0 ak1 ag1L ak2 ag2 ak3 ag3 ak4 ag4L ak5 ag5L ak6 ag6L pb pn ps kpb fpb kpn fpn nd H.size ra1 ra2 hp1 hp2 hb0 hf0 hf1 hf2 hf3 hf4 hf5 hf6 hf7 hf8 (by first | assumption | omega) (by first | assumption | omega) (by first | assumption | omega) (by first | assumption | omega) (by first | assumption | omega) (by first | assumption | omega) hd0 hdn ih) (cwV 2 hts gX6_items_X6_item rfl rfl rfl (by decide +kernel) ⟨(show (10 * nd + 9) + 1 ≤ 10 * nd + 10 by omega), (show 8 + (3 + 11) + (200 * nd + 160) ≤ 200 * nd + 200 by omega)⟩) ⟨fun a U g mk q => by obtain ⟨q0, q1, qP, qK, qD⟩ := q; exact ⟨q0, q1, qP, va_K.moved (u := U) (U := U.calling g mk a) (Vm.Alike.refl U.vm) qK, qD⟩, va_recv (s := s) (q := (RX6, TX6, 8)) hKc hPc (ci := 5) (q0 := 0) rfl rfl, fun U hU hW => ⟨rfl, by rw [hU], by rw [hU]; exact hPc, va_K.moved hW.alike hKc, hDc.weaken (fun _ _ _ _ => trivial)⟩⟩ rfl rfl hl.1 rfl (lv_room (Nat.le_of_ble_eq_true rfl)) dX6_items_21 ⟨Nat.le_of_ble_eq_true rfl, Nat.le_of_ble_eq_true rfl⟩) hS (fun q _ h => hFc q h) hFc (fun r3 u t H1 locs ht hvm hw hB hz1 hk1 hS => ?_)
          refine Exists.elim hB ?_; clear hB; intro q4 hB
          refine Exists.elim hB ?_; clear hB; intro q5 hB
          refine Exists.elim hB ?_; clear hB; intro q6 hB
          refine Exists.elim hB ?_; clear hB; intro q7 hB
          refine Exists.elim hB ?_; clear hB; intro q8 hB
          refine Exists.elim hB ?_; clear hB; intro q9 hB
          refine Exists.elim hB ?_; clear hB; intro q10 hB
          refine Exists.elim hB ?_; clear hB; intro q11 hB
          refine Exists.elim hB ?_; clear hB; intro q12 hB
          refine Exists.elim hB ?_; clear hB; intro q13 hB
          refine Exists.elim hB ?_; clear hB; intro q14 hB
          refine Exists.elim hB ?_; clear hB; intro q15 hB
          refine Exists.elim hB ?_; clear hB; intro q16 hB
          refine Exists.elim hB ?_; clear hB; intro q17 hB
          refine Exists.elim hB ?_; clear hB; intro q18 hB
          refine Exists.elim hB ?_; clear hB; intro q19 hB
          refine Exists.elim hB ?_; clear hB; intro q20 hB
          refine Exists.elim hB ?_; clear hB; intro q21 hB
          refine Exists.elim hB ?_; clear hB; intro q22 hB
          refine Exists.elim hB ?_; clear hB; intro q23 hB
          refine Exists.elim hB ?_; clear hB; intro q24 hB
          refine Exists.elim hB ?_; clear hB; intro q25 hB
          refine Exists.elim hB ?_; clear hB; intro q26 hB
          have x1_r3 := hB.1
          replace hB := hB.2
          have x2_r3 := hB.1
          replace hB := hB.2
          have x3_r3 := hB.1
          replace hB := hB.2
          have x4_r3 := hB.1
          replace hB := hB.2
          obtain ⟨hP1, hK1, hD1⟩ := hB
          rw [ht] at hP1
          have hK1 := va_K.moved hvm.symm hK1
          try dsimp only at hw
          obtain ⟨hP, hD⟩ := J_s (wL := [eO h0 5 [.ref jb, .ref qm, .int q16, .ref qh, .ref qk, .ref qf, .int q17, .ref jp], eI qm km 60 q4, eI qh kh 8 q5, eR qk kk 9 fo, eI ro0 kr0 8 q6, eI ro1 kr1 8 q7, eI ro2 kr2 8 q8, eI ro3 kr3 8 q9, eI ro4 kr4 8 q10, eI ro5 kr5 8 q11, eI ro6 kr6 8 q12, eI ro7 kr7 8 q13, eI ro8 kr8 8 q14, eL qf kf 9 q15, eO jb 0 [.ref aq0, .ref aq1, .ref aq2, .ref aq3, .ref aq4, .ref aq5, .ref aq6, .int aacc, .long q22, .int q23, .int q24, .int q25, .int q26], eI aq0 ak0 8 ag0, eI aq1 ak1 8 q18, eI aq2 ak2 8 ag2, eI aq3 ak3 8 ag3, eI aq4 ak4 8 q19, eI aq5 ak5 8 q20, eI aq6 ak6 8 q21, eO jp 2 [.ref pb, .ref pn, .int ps], eI pb kpb 80 fpb, eI pn kpn 80 fpn]) hP hD [(0, 25)] [] hCm hNw (by decide +kernel) hk1 hFc hP1 hD1 rfl
          have hK := KJ_s (tys' := [(km, .int), (kh, .int), (kk, .array .int), (kr0, .int), (kr1, .int), (kr2, .int), (kr3, .int), (kr4, .int), (kr5, .int), (kr6, .int), (kr7, .int), (kr8, .int), (kf, .long), (ak0, .int), (ak1, .int), (ak2, .int), (ak3, .boolean), (ak4, .int), (ak5, .int), (ak6, .int), (kpb, .int), (kpn, .int)]) hK hK1 [] rfl
          generalize H1 = H at hP hS ⊢
          refine lv_istore (lv' := [(5, .int r3), (4, .int x), (0, .ref h0), (1, .int p0), (2, .int p1), (3, .int dp)]) hx hb dX6_items_24 hl (by decide) rfl (fun ls hl => ?_)
          refine lv_iload hx hb dX6_items_26 (lv_at hl 1 rfl) ?_
          refine lv_iconst (v := 1) hx hb dX6_items_28 (by decide) ?_
          refine lv_iadd hx hb dX6_items_29 ?_
          refine lv_topi (fun z27 e_z27 => ?_)
          (first | have t_z27 := i_add e_z27 (by omega) (by omega) | skip)
          refine lv_aload_n hx hb dX6_items_30 rfl (lv_at hl 2 rfl) ?_
          refine va_get (D := (dC, dI)) (ci := 5) (v := .ref jp) (C := RX6) (T := TX6) (N := 8) hx hb hts (fun w h => List.mem_cons_of_mem _ (inlX6 w h)) hown hK hP 0 rfl rfl 7 (by decide) (hts (.fieldLink RX6 41 "ClearingGates$Runner" "program" "LClearingGates$Program;") (List.mem_cons_of_mem _ mw_195)) (fun _ h9 => h9) rfl dX6_items_31 ?_
          refine lv_iload hx hb dX6_items_34 (lv_at hl 1 rfl) ?_
          obtain ⟨hPc, hDc, hFc, hCm, hNw⟩ := C_s (wc := [eO jp 2 [.ref pb, .ref pn, .int ps], eI pn kpn 80 fpn]) hP hD hS hA [(22, 1), (24, 1)] 25 rfl (by decide +kernel) rfl
          have hKc := K_s (tys' := [(kpn, .int)]) hK [(21, 1)] rfl
          refine va_calli (va_runV (As := [.int x]) (rest := [.int z27]) ⟨hx, hb, hml, hown, hts⟩ (c_X3_behindItem l dC dI jp x pb pn ps kpn fpn H.size hp1 hp2 hb0) (cwV 1 hts gX6_items_X3_behindItem rfl rfl rfl (by decide +kernel) ⟨(show (0) + 1 ≤ 10 * nd + 10 by omega), (show 8 + (2 + 11) + (0) ≤ 200 * nd + 200 by omega)⟩) ⟨fun a U g mk q => by obtain ⟨q0, q1, qP, qK, qD⟩ := q; exact ⟨q0, q1, qP, va_K.moved (u := U) (U := U.calling g mk a) (Vm.Alike.refl U.vm) qK, qD⟩, va_recv (s := s) (q := (RX3, TX3, 3)) hKc hPc (ci := 2) (q0 := 0) rfl rfl, fun U hU hW => ⟨rfl, by rw [hU], by rw [hU]; exact hPc, va_K.moved hW.alike hKc, hDc.weaken (fun _ _ _ _ => trivial)⟩⟩ rfl rfl hl.1 rfl (lv_room (Nat.le_of_ble_eq_true rfl)) dX6_items_36 ⟨Nat.le_of_ble_eq_true rfl, Nat.le_of_ble_eq_true rfl⟩) hS (fun q _ h => hFc q h) hFc (fun r28 u t H1 locs ht hvm hw hB hz1 hk1 hS => ?_)
          obtain ⟨hP1, hK1, hD1⟩ := hB
          rw [ht] at hP1
          have hK1 := va_K.moved hvm.symm hK1
          try dsimp only at hw
          obtain ⟨hP, hD⟩ := J_s (wL := [eO h0 5 [.ref jb, .ref qm, .int q16, .ref qh, .ref qk, .ref qf, .int q17, .ref jp], eI qm km 60 q4, eI qh kh 8 q5, eR qk kk 9 fo, eI ro0 kr0 8 q6, eI ro1 kr1 8 q7, eI ro2 kr2 8 q8, eI ro3 kr3 8 q9, eI ro4 kr4 8 q10, eI ro5 kr5 8 q11, eI ro6 kr6 8 q12, eI ro7 kr7 8 q13, eI ro8 kr8 8 q14, eL qf kf 9 q15, eO jb 0 [.ref aq0, .ref aq1, .ref aq2, .ref aq3, .ref aq4, .ref aq5, .ref aq6, .int aacc, .long q22, .int q23, .int q24, .int q25, .int q26], eI aq0 ak0 8 ag0, eI aq1 ak1 8 q18, eI aq2 ak2 8 ag2, eI aq3 ak3 8 ag3, eI aq4 ak4 8 q19, eI aq5 ak5 8 q20, eI aq6 ak6 8 q21, eI pb kpb 80 fpb, eO jp 2 [.ref pb, .ref pn, .int ps], eI pn kpn 80 fpn]) hP hD [(22, 1), (24, 1)] [(0, 22), (23, 1)] hCm hNw (by decide +kernel) hk1 hFc hP1 hD1 rfl
          have hK := KJ_s (tys' := [(km, .int), (kh, .int), (kk, .array .int), (kr0, .int), (kr1, .int), (kr2, .int), (kr3, .int), (kr4, .int), (kr5, .int), (kr6, .int), (kr7, .int), (kr8, .int), (kf, .long), (ak0, .int), (ak1, .int), (ak2, .int), (ak3, .boolean), (ak4, .int), (ak5, .int), (ak6, .int), (kpb, .int), (kpn, .int)]) hK hK1 [(0, 21)] rfl
          generalize H1 = H at hP hS ⊢
          have h_r28 := hw
          refine va_mmax hx hb (hml.trans hl.1.symm) hown (hts (.methodLink RX6 71 Lib.Math.max.name) (List.mem_cons_of_mem _ mw_440)) (hts (.static Lib.Math.max.name) (List.mem_cons_of_mem _ mw_441)) (hts (.initialized "java/lang/Math") (List.mem_cons_of_mem _ mw_79)) (hts (.code Lib.Math.max.name Lib.Math.max.code 2 (some .int)) (List.mem_cons_of_mem _ mw_442)) (Nat.le_of_ble_eq_true rfl) (Nat.le_of_ble_eq_true rfl) (Nat.le_of_ble_eq_true rfl) (Nat.le_of_ble_eq_true rfl) dX6_items_39 ?_
          refine lv_topi (fun z29 e_z29 => ?_)
          have t_z29 := i_max e_z29
          refine lv_istore (lv' := [(4, .int z29), (5, .int r3), (0, .ref h0), (1, .int p0), (2, .int p1), (3, .int dp)]) hx hb dX6_items_42 hl (by decide) rfl (fun ls hl => ?_)
          refine lv_goto (tgt := 6) hx hb dX6_items_44 (by decide) ?_
          exact ih_6 z29 r3 q4 q5 q6 q7 q8 q9 q10 q11 q12 q13 q14 q15 q16 q17 q18 q19 q20 q21 q22 q23 q24 q25 q26 (by first | assumption | omega) (by first | assumption | omega) (by first | assumption | omega) (by first | assumption | omega) (by first | assumption | omega) (by first | assumption | omega) (by omega) _ _ (K_s hK [(0, 22)] rfl) (P_s hP [(0, 22), (23, 1), (22, 1), (24, 1)] rfl) (D_s hD [(0, 22), (23, 1), (22, 1), (24, 1)] 25 rfl (by decide +kernel) rfl) hS ls (lv_sub hl [1, 0, 2, 3, 4, 5] rfl)
  exact loop_6 (1000) p0 0 fm fh fr0 fr1 fr2 fr3 fr4 fr5 fr6 fr7 fr8 ff mc bg ag1 ag4 ag5 ag6 afees amis abel aref acau (by first | assumption | omega) (by first | assumption | omega) (by first | assumption | omega) (by first | assumption | omega) (by first | assumption | omega) (by first | assumption | omega) (by omega) _ _ hK hP hD hS ls (lv_sub hl [0, 1, 2, 3, 4, 5] rfl)

/-- items at every depth -/
theorem ki_all (l : Launch) (dC : Nat → ClassId) (dI : Nat → Nat → Nat) : ∀ n : Nat, KI l dC dI n := by
  intro n
  induction n with
  | zero => intro h0 p0 p1 dp jb qm mc qh qk qf bg jp km fm kh fh kk fo ro0 kr0 fr0 ro1 kr1 fr1 ro2 kr2 fr2 ro3 kr3 fr3 ro4 kr4 fr4 ro5 kr5 fr5 ro6 kr6 fr6 ro7 kr7 fr7 ro8 kr8 fr8 kf ff aq0 aq1 aq2 aq3 aq4 aq5 aq6 aacc afees amis abel aref acau ak0 ag0 ak1 ag1 ak2 ag2 ak3 ag3 ak4 ag4 ak5 ag5 ak6 ag6 pb pn ps kpb fpb kpn fpn sz ra1 ra2 hp1 hp2 hb0 hf0 hf1 hf2 hf3 hf4 hf5 hf6 hf7 hf8 rb1 rb2 rb3 rb4 pl1 pl2 pl3 hd0 hdn; exact c_X6_items l dC dI h0 p0 p1 dp jb qm mc qh qk qf bg jp km fm kh fh kk fo ro0 kr0 fr0 ro1 kr1 fr1 ro2 kr2 fr2 ro3 kr3 fr3 ro4 kr4 fr4 ro5 kr5 fr5 ro6 kr6 fr6 ro7 kr7 fr7 ro8 kr8 fr8 kf ff aq0 aq1 aq2 aq3 aq4 aq5 aq6 aacc afees amis abel aref acau ak0 ag0 ak1 ag1 ak2 ag2 ak3 ag3 ak4 ag4 ak5 ag5 ak6 ag6 pb pn ps kpb fpb kpn fpn 0 sz ra1 ra2 hp1 hp2 hb0 hf0 hf1 hf2 hf3 hf4 hf5 hf6 hf7 hf8 rb1 rb2 rb3 rb4 pl1 pl2 pl3 hd0 hdn (fun m hm => absurd hm (by omega))
  | succ n ih => intro h0 p0 p1 dp jb qm mc qh qk qf bg jp km fm kh fh kk fo ro0 kr0 fr0 ro1 kr1 fr1 ro2 kr2 fr2 ro3 kr3 fr3 ro4 kr4 fr4 ro5 kr5 fr5 ro6 kr6 fr6 ro7 kr7 fr7 ro8 kr8 fr8 kf ff aq0 aq1 aq2 aq3 aq4 aq5 aq6 aacc afees amis abel aref acau ak0 ag0 ak1 ag1 ak2 ag2 ak3 ag3 ak4 ag4 ak5 ag5 ak6 ag6 pb pn ps kpb fpb kpn fpn sz ra1 ra2 hp1 hp2 hb0 hf0 hf1 hf2 hf3 hf4 hf5 hf6 hf7 hf8 rb1 rb2 rb3 rb4 pl1 pl2 pl3 hd0 hdn; exact c_X6_items l dC dI h0 p0 p1 dp jb qm mc qh qk qf bg jp km fm kh fh kk fo ro0 kr0 fr0 ro1 kr1 fr1 ro2 kr2 fr2 ro3 kr3 fr3 ro4 kr4 fr4 ro5 kr5 fr5 ro6 kr6 fr6 ro7 kr7 fr7 ro8 kr8 fr8 kf ff aq0 aq1 aq2 aq3 aq4 aq5 aq6 aacc afees amis abel aref acau ak0 ag0 ak1 ag1 ak2 ag2 ak3 ag3 ak4 ag4 ak5 ag5 ak6 ag6 pb pn ps kpb fpb kpn fpn (n + 1) sz ra1 ra2 hp1 hp2 hb0 hf0 hf1 hf2 hf3 hf4 hf5 hf6 hf7 hf8 rb1 rb2 rb3 rb4 pl1 pl2 pl3 hd0 hdn (fun m hm => by have e : m = n := (by omega); rw [e]; exact ih)
