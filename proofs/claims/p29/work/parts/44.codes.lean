theorem bxX7_needMask (p0 : Int32) : xX7_needMask p0 = 0 ∨ xX7_needMask p0 = 1 := by
  unfold xX7_needMask
  repeat' split
  all_goals omega
theorem bxX7_needSecret (p0 : Int32) : xX7_needSecret p0 = 0 ∨ xX7_needSecret p0 = 1 := by
  unfold xX7_needSecret
  repeat' split
  all_goals omega
theorem bxX7_needProp (p0 : Int32) : xX7_needProp p0 = 0 ∨ xX7_needProp p0 = 1 := by
  unfold xX7_needProp
  repeat' split
  all_goals omega
theorem bxX7_needRange (p0 : Int32) (p1 : Int32) (p2 : Int32) : xX7_needRange p0 p1 p2 = 0 ∨ xX7_needRange p0 p1 p2 = 2 := by
  unfold xX7_needRange
  repeat' split
  all_goals omega
theorem bxX7_needUnlike (p0 : Int32) (p1 : Int32) : xX7_needUnlike p0 p1 = 0 ∨ xX7_needUnlike p0 p1 = 2 := by
  unfold xX7_needUnlike
  repeat' split
  all_goals omega
theorem bxX7_needPlay (ni : Int32) (li : Int32) (mi : Int32) (mv : Int32) (nx : Int32) (al : Int32) (nc : Int32) (nl : Int32) : xX7_needPlay ni li mi mv nx al nc nl = 0 ∨ xX7_needPlay ni li mi mv nx al nc nl = 3 := by
  unfold xX7_needPlay
  repeat' split
  all_goals omega
theorem bxX7_needNoPlay (ni : Int32) (li : Int32) (mi : Int32) (mv : Int32) (nx : Int32) (al : Int32) (nc : Int32) (nl : Int32) : xX7_needNoPlay ni li mi mv nx al nc nl = 0 ∨ xX7_needNoPlay ni li mi mv nx al nc nl = 3 := by
  unfold xX7_needNoPlay
  repeat' split
  all_goals omega
theorem bxX7_needOn (ni : Int32) (li : Int32) (mi : Int32) (mv : Int32) (nx : Int32) (al : Int32) (nc : Int32) (nl : Int32) (on : Int32) (il : Int32) (ba : Int32) (p1 : Int32) : xX7_needOn ni li mi mv nx al nc nl on il ba p1 = 0 ∨ xX7_needOn ni li mi mv nx al nc nl on il ba p1 = 3 := by
  unfold xX7_needOn
  repeat' split
  all_goals omega
theorem bxX7_knows (ni : Int32) (li : Int32) (mi : Int32) (mv : Int32) (nx : Int32) (al : Int32) (nc : Int32) (nl : Int32) (kb0 : Nat → Int32) (hb0 : Nat → Int32) (p1 : Int32) (p2 : Int32) (p3 : Int32) : xX7_knows ni li mi mv nx al nc nl kb0 hb0 p1 p2 p3 = 0 ∨ xX7_knows ni li mi mv nx al nc nl kb0 hb0 p1 p2 p3 = 1 := by
  have h0 := bxX7_needMask p1
  have h1 := bxX7_needSecret p2
  unfold xX7_knows
  repeat' split
  all_goals omega
theorem bxX7_has (ni : Int32) (li : Int32) (mi : Int32) (mv : Int32) (nx : Int32) (al : Int32) (nc : Int32) (nl : Int32) (kb0 : Nat → Int32) (hb0 : Nat → Int32) (p1 : Int32) (p2 : Int32) : xX7_has ni li mi mv nx al nc nl kb0 hb0 p1 p2 = 0 ∨ xX7_has ni li mi mv nx al nc nl kb0 hb0 p1 p2 = 1 := by
  have h0 := bxX7_needProp p1
  have h1 := bxX7_needMask p2
  unfold xX7_has qX7_has_13_x
  repeat' split
  all_goals omega
theorem bxX7_step (ni : Int32) (li : Int32) (mi : Int32) (mv : Int32) (nx : Int32) (al : Int32) (nc : Int32) (nl : Int32) (ki : Nat → Int32) (fi : Nat → Int32) (se : Nat → Int32) (th : Nat → Int32) (size : Int32) (p1 : Int32) (p2 : Int32) (p3 : Int32) (p4 : Int32) : xX7_step ni li mi mv nx al nc nl ki fi se th size p1 p2 p3 p4 = 0 ∨ xX7_step ni li mi mv nx al nc nl ki fi se th size p1 p2 p3 p4 = 1 ∨ xX7_step ni li mi mv nx al nc nl ki fi se th size p1 p2 p3 p4 = 2 ∨ xX7_step ni li mi mv nx al nc nl ki fi se th size p1 p2 p3 p4 = 3 := by
  have h0 := bxX7_needMask p2
  have h1 := bxX7_needMask p3
  have h2 := bxX7_needSecret p4
  have h3 := bxX7_needRange p1 (0 : Int32) (4 : Int32)
  have h4 := bxX7_needUnlike p2 p3
  have h5 := bxX7_needNoPlay ni li mi mv nx al nc nl
  unfold xX7_step
  repeat' split
  all_goals omega
theorem bxX7_tear (ni : Int32) (li : Int32) (mi : Int32) (mv : Int32) (nx : Int32) (al : Int32) (nc : Int32) (nl : Int32) (ki : Nat → Int32) (fi : Nat → Int32) (se : Nat → Int32) (th : Nat → Int32) (size : Int32) : xX7_tear ni li mi mv nx al nc nl ki fi se th size = 0 ∨ xX7_tear ni li mi mv nx al nc nl ki fi se th size = 3 := by
  have h0 := bxX7_needNoPlay ni li mi mv nx al nc nl
  unfold xX7_tear
  repeat' split
  all_goals omega
theorem bxX7_ill (ni : Int32) (li : Int32) (mi : Int32) (mv : Int32) (nx : Int32) (al : Int32) (nc : Int32) (nl : Int32) (on : Int32) (il : Int32) (ba : Int32) (p1 : Int32) : xX7_ill ni li mi mv nx al nc nl on il ba p1 = 0 ∨ xX7_ill ni li mi mv nx al nc nl on il ba p1 = 1 := by
  have h0 := bxX7_needMask p1
  unfold xX7_ill
  repeat' split
  all_goals omega
theorem bxX7_ban (ni : Int32) (li : Int32) (mi : Int32) (mv : Int32) (nx : Int32) (al : Int32) (nc : Int32) (nl : Int32) (on : Int32) (il : Int32) (ba : Int32) (p1 : Int32) : xX7_ban ni li mi mv nx al nc nl on il ba p1 = 0 ∨ xX7_ban ni li mi mv nx al nc nl on il ba p1 = 1 := by
  have h0 := bxX7_needSecret p1
  unfold xX7_ban
  repeat' split
  all_goals omega
theorem bxX7_travel (ni : Int32) (li : Int32) (mi : Int32) (mv : Int32) (nx : Int32) (al : Int32) (nc : Int32) (nl : Int32) (on : Int32) (il : Int32) (ba : Int32) (le : Nat → Int32) (wi : Nat → Int32) (pr : Nat → Int32) (tp : Nat → Int32) (gs : Int32) : xX7_travel ni li mi mv nx al nc nl on il ba le wi pr tp gs = 0 ∨ xX7_travel ni li mi mv nx al nc nl on il ba le wi pr tp gs = 3 := by
  have h0 := bxX7_needNoPlay ni li mi mv nx al nc nl
  unfold xX7_travel
  repeat' split
  all_goals omega
theorem bxX7_gag (ni : Int32) (li : Int32) (mi : Int32) (mv : Int32) (nx : Int32) (al : Int32) (nc : Int32) (nl : Int32) (le : Nat → Int32) (wi : Nat → Int32) (pr : Nat → Int32) (tp : Nat → Int32) (gs : Int32) (p1 : Int32) (p2 : Int32) (p3 : Int32) : xX7_gag ni li mi mv nx al nc nl le wi pr tp gs p1 p2 p3 = 0 ∨ xX7_gag ni li mi mv nx al nc nl le wi pr tp gs p1 p2 p3 = 1 ∨ xX7_gag ni li mi mv nx al nc nl le wi pr tp gs p1 p2 p3 = 2 ∨ xX7_gag ni li mi mv nx al nc nl le wi pr tp gs p1 p2 p3 = 3 := by
  have h0 := bxX7_needProp p3
  have h1 := bxX7_needRange p1 (1 : Int32) (20 : Int32)
  have h2 := bxX7_needRange p2 (0 : Int32) (1000 : Int32)
  unfold xX7_gag qX7_gag_9_x
  repeat' split
  all_goals omega
theorem bxX7_points (ni : Int32) (li : Int32) (mi : Int32) (mv : Int32) (nx : Int32) (al : Int32) (nc : Int32) (nl : Int32) (pt : Nat → Int32) (p1 : Int32) (p2 : Int32) : xX7_points ni li mi mv nx al nc nl pt p1 p2 = 0 ∨ xX7_points ni li mi mv nx al nc nl pt p1 p2 = 1 ∨ xX7_points ni li mi mv nx al nc nl pt p1 p2 = 2 := by
  have h0 := bxX7_needMask p1
  have h1 := bxX7_needRange p2 (0 : Int32) (100 : Int32)
  unfold xX7_points
  repeat' split
  all_goals omega
theorem bxX7_night (ni : Int32) (li : Int32) (mi : Int32) (mv : Int32) (nx : Int32) (al : Int32) (nc : Int32) (nl : Int32) (ki : Nat → Int32) (fi : Nat → Int32) (se : Nat → Int32) (th : Nat → Int32) (size : Int32) (on : Int32) (il : Int32) (ba : Int32) (kn : Nat → Int32) (ho : Nat → Int32) (kb0 : Nat → Int32) (hb0 : Nat → Int32) (p1 : Int32) : xX7_night ni li mi mv nx al nc nl ki fi se th size on il ba kn ho kb0 hb0 p1 = 0 ∨ xX7_night ni li mi mv nx al nc nl ki fi se th size on il ba kn ho kb0 hb0 p1 = 2 ∨ xX7_night ni li mi mv nx al nc nl ki fi se th size on il ba kn ho kb0 hb0 p1 = 3 := by
  have h0 := bxX7_needRange p1 (1 : Int32) (100 : Int32)
  have h1 := bxX7_needNoPlay ni li mi mv nx al nc nl
  unfold xX7_night
  repeat' split
  all_goals omega
theorem bxX7_enter (ni : Int32) (li : Int32) (mi : Int32) (mv : Int32) (nx : Int32) (al : Int32) (nc : Int32) (nl : Int32) (ki : Nat → Int32) (fi : Nat → Int32) (se : Nat → Int32) (th : Nat → Int32) (size : Int32) (on : Int32) (il : Int32) (ba : Int32) (p1 : Int32) : xX7_enter ni li mi mv nx al nc nl ki fi se th size on il ba p1 = 0 ∨ xX7_enter ni li mi mv nx al nc nl ki fi se th size on il ba p1 = 1 ∨ xX7_enter ni li mi mv nx al nc nl ki fi se th size on il ba p1 = 3 := by
  have h0 := bxX7_needMask p1
  have h1 := bxX7_needPlay ni li mi mv nx al nc nl
  unfold xX7_enter
  repeat' split
  all_goals omega
theorem bxX7_exit (ni : Int32) (li : Int32) (mi : Int32) (mv : Int32) (nx : Int32) (al : Int32) (nc : Int32) (nl : Int32) (ki : Nat → Int32) (fi : Nat → Int32) (se : Nat → Int32) (th : Nat → Int32) (size : Int32) (on : Int32) (il : Int32) (ba : Int32) (p1 : Int32) : xX7_exit ni li mi mv nx al nc nl ki fi se th size on il ba p1 = 0 ∨ xX7_exit ni li mi mv nx al nc nl ki fi se th size on il ba p1 = 1 ∨ xX7_exit ni li mi mv nx al nc nl ki fi se th size on il ba p1 = 3 := by
  have h0 := bxX7_needMask p1
  have h1 := bxX7_needPlay ni li mi mv nx al nc nl
  have h2 := bxX7_needOn ni li mi mv nx al nc nl on il ba p1
  unfold xX7_exit
  repeat' split
  all_goals omega
theorem bxX7_tell (ni : Int32) (li : Int32) (mi : Int32) (mv : Int32) (nx : Int32) (al : Int32) (nc : Int32) (nl : Int32) (ki : Nat → Int32) (fi : Nat → Int32) (se : Nat → Int32) (th : Nat → Int32) (size : Int32) (on : Int32) (il : Int32) (ba : Int32) (kT : Nat → Int32) (hT : Nat → Int32) (kn : Nat → Int32) (ho : Nat → Int32) (p1 : Int32) (p2 : Int32) (p3 : Int32) : xX7_tell ni li mi mv nx al nc nl ki fi se th size on il ba kT hT kn ho p1 p2 p3 = 0 ∨ xX7_tell ni li mi mv nx al nc nl ki fi se th size on il ba kT hT kn ho p1 p2 p3 = 1 ∨ xX7_tell ni li mi mv nx al nc nl ki fi se th size on il ba kT hT kn ho p1 p2 p3 = 2 ∨ xX7_tell ni li mi mv nx al nc nl ki fi se th size on il ba kT hT kn ho p1 p2 p3 = 3 := by
  have h0 := bxX7_needMask p1
  have h1 := bxX7_needMask p2
  have h2 := bxX7_needSecret p3
  have h3 := bxX7_needUnlike p1 p2
  have h4 := bxX7_needPlay ni li mi mv nx al nc nl
  have h5 := bxX7_needOn ni li mi mv nx al nc nl on il ba p1
  have h6 := bxX7_needOn ni li mi mv nx al nc nl on il ba p2
  unfold xX7_tell
  repeat' split
  all_goals omega
theorem bxX7_give (ni : Int32) (li : Int32) (mi : Int32) (mv : Int32) (nx : Int32) (al : Int32) (nc : Int32) (nl : Int32) (ki : Nat → Int32) (fi : Nat → Int32) (se : Nat → Int32) (th : Nat → Int32) (size : Int32) (on : Int32) (il : Int32) (ba : Int32) (kn : Nat → Int32) (ho : Nat → Int32) (p1 : Int32) (p2 : Int32) (p3 : Int32) : xX7_give ni li mi mv nx al nc nl ki fi se th size on il ba kn ho p1 p2 p3 = 0 ∨ xX7_give ni li mi mv nx al nc nl ki fi se th size on il ba kn ho p1 p2 p3 = 1 ∨ xX7_give ni li mi mv nx al nc nl ki fi se th size on il ba kn ho p1 p2 p3 = 2 ∨ xX7_give ni li mi mv nx al nc nl ki fi se th size on il ba kn ho p1 p2 p3 = 3 := by
  have h0 := bxX7_needMask p1
  have h1 := bxX7_needMask p2
  have h2 := bxX7_needProp p3
  have h3 := bxX7_needUnlike p1 p2
  have h4 := bxX7_needPlay ni li mi mv nx al nc nl
  have h5 := bxX7_needOn ni li mi mv nx al nc nl on il ba p1
  have h6 := bxX7_needOn ni li mi mv nx al nc nl on il ba p2
  unfold xX7_give
  repeat' split
  all_goals omega
theorem bxX7_take (ni : Int32) (li : Int32) (mi : Int32) (mv : Int32) (nx : Int32) (al : Int32) (nc : Int32) (nl : Int32) (ki : Nat → Int32) (fi : Nat → Int32) (se : Nat → Int32) (th : Nat → Int32) (size : Int32) (on : Int32) (il : Int32) (ba : Int32) (kn : Nat → Int32) (ho : Nat → Int32) (p1 : Int32) (p2 : Int32) : xX7_take ni li mi mv nx al nc nl ki fi se th size on il ba kn ho p1 p2 = 0 ∨ xX7_take ni li mi mv nx al nc nl ki fi se th size on il ba kn ho p1 p2 = 1 ∨ xX7_take ni li mi mv nx al nc nl ki fi se th size on il ba kn ho p1 p2 = 3 := by
  have h0 := bxX7_needMask p1
  have h1 := bxX7_needProp p2
  have h2 := bxX7_needPlay ni li mi mv nx al nc nl
  have h3 := bxX7_needOn ni li mi mv nx al nc nl on il ba p1
  unfold xX7_take
  repeat' split
  all_goals omega
theorem bxX7_greet (ni : Int32) (li : Int32) (mi : Int32) (mv : Int32) (nx : Int32) (al : Int32) (nc : Int32) (nl : Int32) (ki : Nat → Int32) (fi : Nat → Int32) (se : Nat → Int32) (th : Nat → Int32) (size : Int32) (on : Int32) (il : Int32) (ba : Int32) (p1 : Int32) (p2 : Int32) : xX7_greet ni li mi mv nx al nc nl ki fi se th size on il ba p1 p2 = 0 ∨ xX7_greet ni li mi mv nx al nc nl ki fi se th size on il ba p1 p2 = 1 ∨ xX7_greet ni li mi mv nx al nc nl ki fi se th size on il ba p1 p2 = 2 ∨ xX7_greet ni li mi mv nx al nc nl ki fi se th size on il ba p1 p2 = 3 := by
  have h0 := bxX7_needMask p1
  have h1 := bxX7_needMask p2
  have h2 := bxX7_needUnlike p1 p2
  have h3 := bxX7_needPlay ni li mi mv nx al nc nl
  have h4 := bxX7_needOn ni li mi mv nx al nc nl on il ba p1
  have h5 := bxX7_needOn ni li mi mv nx al nc nl on il ba p2
  unfold xX7_greet
  repeat' split
  all_goals omega
theorem bxX7_play (ni : Int32) (li : Int32) (mi : Int32) (mv : Int32) (nx : Int32) (al : Int32) (nc : Int32) (nl : Int32) (le : Nat → Int32) (wi : Nat → Int32) (pr : Nat → Int32) (tp : Nat → Int32) (gs : Int32) (on : Int32) (il : Int32) (ba : Int32) (kn : Nat → Int32) (ho : Nat → Int32) (p1 : Int32) (p2 : Int32) : xX7_play ni li mi mv nx al nc nl le wi pr tp gs on il ba kn ho p1 p2 = 0 ∨ xX7_play ni li mi mv nx al nc nl le wi pr tp gs on il ba kn ho p1 p2 = 1 ∨ xX7_play ni li mi mv nx al nc nl le wi pr tp gs on il ba kn ho p1 p2 = 3 := by
  have h0 := bxX7_needMask p2
  have h1 := bxX7_needPlay ni li mi mv nx al nc nl
  have h2 := bxX7_needOn ni li mi mv nx al nc nl on il ba p2
  unfold xX7_play
  repeat' split
  all_goals omega
theorem bxX7_isKnown (ni : Int32) (li : Int32) (mi : Int32) (mv : Int32) (nx : Int32) (al : Int32) (nc : Int32) (nl : Int32) (kb0 : Nat → Int32) (hb0 : Nat → Int32) (on : Int32) (il : Int32) (ba : Int32) (kn : Nat → Int32) (ho : Nat → Int32) (p1 : Int32) (p2 : Int32) : xX7_isKnown ni li mi mv nx al nc nl kb0 hb0 on il ba kn ho p1 p2 = 0 ∨ xX7_isKnown ni li mi mv nx al nc nl kb0 hb0 on il ba kn ho p1 p2 = 1 := by
  have h0 := bxX7_needMask p1
  have h1 := bxX7_needSecret p2
  unfold xX7_isKnown
  repeat' split
  all_goals omega
theorem bxX7_holder (ni : Int32) (li : Int32) (mi : Int32) (mv : Int32) (nx : Int32) (al : Int32) (nc : Int32) (nl : Int32) (kb0 : Nat → Int32) (hb0 : Nat → Int32) (on : Int32) (il : Int32) (ba : Int32) (kn : Nat → Int32) (ho : Nat → Int32) (p1 : Int32) : xX7_holder ni li mi mv nx al nc nl kb0 hb0 on il ba kn ho p1 = 0 ∨ xX7_holder ni li mi mv nx al nc nl kb0 hb0 on il ba kn ho p1 = 1 := by
  have h0 := bxX7_needProp p1
  unfold xX7_holder
  repeat' split
  all_goals omega
theorem bxX7_count (ni : Int32) (li : Int32) (mi : Int32) (mv : Int32) (nx : Int32) (al : Int32) (nc : Int32) (nl : Int32) (on : Int32) (il : Int32) (ba : Int32) (p1 : Int32) : xX7_count ni li mi mv nx al nc nl on il ba p1 = 0 ∨ xX7_count ni li mi mv nx al nc nl on il ba p1 = 2 := by
  unfold xX7_count
  repeat' split
  all_goals omega
