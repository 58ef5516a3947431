/-! the class, method by method, as functions of its fields and arguments -/
def gx_X0_init_0 (p0 : Int32) : Int32 := if 0 < (if p0 < 2 then p0 else 2) then (if p0 < 2 then p0 else 2) else 0
def gx_X0_init_8 : Int32 := 9
def fx_X0_mode (a1 a2 p0 : Int32) : Int32 := if a2 = 0 then (if p0 < 0 then (-4) else (if p0 ≤ 3 then a1 else (-4))) else (-5)
def gx_X0_mode_1 (a1 a2 p0 : Int32) : Int32 := if a2 = 0 then (if p0 < 0 then a1 else (if p0 ≤ 3 then p0 else a1)) else a1
def fx_X0_optional (a2 a3 : Int32) : Int32 := if a2 = 0 then (if a3 = 0 then 0 else 1) else (-5)
def gx_X0_optional_3 (a2 a3 p0 : Int32) : Int32 := if a2 = 0 then p0 else a3
def fx_X0_count (a0 a1 a2 a4 a6 a7 a10 a11 p0 : Int32) : Int32 := if p0 = 0 then (if a2 = 0 then (-1) else a1) else (if p0 = 1 then a4 else (if p0 = 2 then (if a6 = 0 then 0 else 1) else (if p0 = 3 then a7 else (if p0 = 4 then a10 else (if p0 = 5 then a11 else (if p0 = 6 then a0 else (-1)))))))
def fx_X0_statusOfMissingFile (a1 a3 : Int32) : Int32 := if a1 = 1 then 0 else (if a3 = 0 then 35 else 5)
def fx_X0_statusOfNoRecord (a0 p0 : Int32) : Int32 := if p0 = 0 then 10 else (if p0 = 1 then 23 else (if p0 = 2 then 90 else (if p0 = 3 then (if a0 = 0 then 90 else 23) else (if p0 = 4 then 23 else (if p0 = 5 then 23 else 90)))))
def fx_X0_statusOfBarredDouble (a0 p0 : Int32) : Int32 := if p0 = 2 then (if a0 = 0 then 90 else 22) else (if p0 = 3 then (if a0 = 2 then 22 else 90) else 90)
def fx_X0_statusOfNoRoom (a0 p0 : Int32) : Int32 := if p0 = 2 then (if a0 = 0 then 34 else 24) else (if p0 = 0 then (if a0 = 1 then 14 else 90) else 90)
def gx_X0_remember_7 (p1 : Int32) : Int32 := p1
def gx_X0_remember_8 (p0 : Int32) : Int32 := p0
def gx_X0_remember_10 (a10 p0 p1 : Int32) : Int32 := if p1 ≤ 9 then (if p0 = 7 then a10 else (a10 + 1)) else a10
def gx_X0_remember_11 (a11 p1 : Int32) : Int32 := if p1 ≤ 9 then a11 else (a11 + 1)
def fx_X0_hasDeclarative (a9 p0 : Int32) : Int32 := if ((a9 >>> (p0 &&& 31)) &&& 1) = 1 then 1 else 0
def fx_X0_isForReading (a1 : Int32) : Int32 := if a1 = 0 then 1 else (if a1 = 2 then 1 else 0)
def fx_X0_isForWriting (a0 a1 : Int32) : Int32 := if a1 = 1 then 1 else (if a1 = 3 then 1 else (if a1 = 2 then (if a0 = 0 then 0 else 1) else 0))
def fx_X0_givesPlace (p0 : Int32) : Int32 := if p0 = 0 then 1 else (if p0 = 2 then 1 else (if p0 = 4 then 1 else 0))
def fx_X0_isRead (p0 : Int32) : Int32 := if p0 = 0 then 1 else (if p0 = 1 then 1 else 0)
def fx_X0_isWriteOrRewrite (p0 : Int32) : Int32 := if p0 = 2 then 1 else (if p0 = 3 then 1 else 0)
def fx_X0_isStatus (p0 : Int32) : Int32 := if p0 < 0 then 0 else (if 99 < p0 then 0 else 1)
def fx_X0_exception (p0 : Int32) : Int32 := if (fx_X0_isStatus p0) = 0 then (-1) else (if 5 < (p0 / 10) then (if (p0 / 10) = 6 then 5 else 6) else (p0 / 10))
def fx_X0_phrase (a7 a9 p0 : Int32) : Int32 := if (fx_X0_exception a7) = 0 then 0 else (if (fx_X0_exception a7) = 1 then (if p0 = 0 then (if (fx_X0_hasDeclarative a9 (fx_X0_exception a7)) = 0 then 4 else 2) else 1) else (if (fx_X0_exception a7) = 2 then (if p0 = 0 then (if (fx_X0_hasDeclarative a9 (fx_X0_exception a7)) = 0 then 4 else 2) else 1) else (if (fx_X0_hasDeclarative a9 (fx_X0_exception a7)) = 0 then 3 else 2)))
def fx_X0_declarative (a9 p0 : Int32) : Int32 := if p0 < 1 then (-4) else (if p0 ≤ 6 then (if (fx_X0_hasDeclarative a9 p0) = 0 then 0 else 1) else (-4))
def gx_X0_declarative_9 (a9 p0 p1 : Int32) : Int32 := if p0 < 1 then a9 else (if p0 ≤ 6 then (if p1 = 0 then (a9 &&& ((1 <<< (p0 &&& 31)) ^^^ (-1))) else (a9 ||| (1 <<< (p0 &&& 31)))) else a9)
def fx_X0_both (p0 p1 : Int32) : Int32 := if (fx_X0_isStatus p0) = 0 then (-1) else (if (fx_X0_isStatus p1) = 0 then (-1) else (if (fx_X0_exception p0) = (fx_X0_exception p1) then (if p1 < p0 then p1 else p0) else (if (fx_X0_exception p0) ≤ (fx_X0_exception p1) then p1 else p0)))
def fx_X0_extended (a0 a8 p0 : Int32) : Int32 := if (fx_X0_isStatus p0) = 0 then (-1) else (((100 * p0) + (10 * a0)) + a8)
def fx_X0_area (p0 : Int32) : Int32 := if (fx_X0_isStatus p0) = 0 then (-1) else (if p0 = 0 then 1 else (if p0 = 2 then 1 else (if p0 = 4 then 2 else 0)))
def fx_X0_statusOfOpening (a1 a2 a3 p0 : Int32) : Int32 := if a2 = 0 then (if p0 = 0 then 0 else (if p0 = 1 then (fx_X0_statusOfMissingFile a1 a3) else (if p0 = 2 then 37 else (if p0 = 3 then 39 else (if p0 = 4 then 38 else (if p0 = 5 then 30 else (if p0 = 6 then 61 else 90))))))) else 41
def fx_X0_statusOfWrongMode (a0 a1 p0 : Int32) : Int32 := if p0 = 0 then (if (fx_X0_isForReading a1) = 0 then 47 else (-1)) else (if p0 = 1 then (if (fx_X0_isForReading a1) = 0 then 47 else (-1)) else (if p0 = 2 then (if (fx_X0_isForWriting a0 a1) = 0 then 48 else (-1)) else (if p0 = 3 then (if a1 = 2 then (-1) else 49) else (if p0 = 4 then (if a1 = 2 then (-1) else 49) else (if p0 = 5 then (if (fx_X0_isForReading a1) = 0 then 47 else (-1)) else (-1))))))
def fx_X0_statusOfLength (p0 : Int32) : Int32 := if (fx_X0_isRead p0) = 0 then (if (fx_X0_isWriteOrRewrite p0) = 0 then 90 else 44) else 4
def fx_X0_placeAfter (p0 p1 : Int32) : Int32 := if (fx_X0_givesPlace p0) = 0 then (if p0 = 10 then 2 else (if p0 = 14 then 3 else (if p0 = 23 then 3 else (if p0 = 46 then 3 else p1)))) else 1
def fx_X0_open (a1 a2 a3 p0 : Int32) : Int32 := fx_X0_statusOfOpening a1 a2 a3 p0
def gx_X0_open_2 (a1 a2 a3 p0 : Int32) : Int32 := if (fx_X0_statusOfOpening a1 a2 a3 p0) = 0 then 1 else (if (fx_X0_statusOfOpening a1 a2 a3 p0) = 5 then 1 else a2)
def gx_X0_open_4 (a1 a2 a3 a4 p0 : Int32) : Int32 := if (fx_X0_statusOfOpening a1 a2 a3 p0) = 0 then 0 else (if (fx_X0_statusOfOpening a1 a2 a3 p0) = 5 then 0 else a4)
def gx_X0_open_5 (a1 a2 a3 a5 p0 : Int32) : Int32 := if (fx_X0_statusOfOpening a1 a2 a3 p0) = 0 then 0 else (if (fx_X0_statusOfOpening a1 a2 a3 p0) = 5 then (if (fx_X0_isForReading a1) = 0 then 0 else 1) else a5)
def gx_X0_open_6 : Int32 := 0
def gx_X0_open_7 (a1 a2 a3 p0 : Int32) : Int32 := gx_X0_remember_7 (fx_X0_statusOfOpening a1 a2 a3 p0)
def gx_X0_open_8 : Int32 := gx_X0_remember_8 7
def gx_X0_open_10 (a1 a2 a3 a10 p0 : Int32) : Int32 := gx_X0_remember_10 a10 7 (fx_X0_statusOfOpening a1 a2 a3 p0)
def gx_X0_open_11 (a1 a2 a3 a11 p0 : Int32) : Int32 := gx_X0_remember_11 a11 (fx_X0_statusOfOpening a1 a2 a3 p0)
def fx_X0_position (p0 : Int32) : Int32 := if (fx_X0_isStatus p0) = 0 then (-1) else (fx_X0_placeAfter p0 0)
def fx_X0_statusAheadOfOutcome (a0 a1 a2 a4 a6 p0 : Int32) : Int32 := if a2 = 0 then 42 else (if a0 = 0 then (if p0 = 1 then 90 else (if p0 = 4 then 90 else (if p0 = 5 then 90 else (if (fx_X0_statusOfWrongMode a0 a1 p0) = (-1) then (if p0 = 3 then (if a6 = 0 then 43 else (-1)) else (if p0 = 0 then (if a4 = 2 then 46 else (if a4 = 3 then 46 else (-1))) else (-1))) else (fx_X0_statusOfWrongMode a0 a1 p0))))) else (if (fx_X0_statusOfWrongMode a0 a1 p0) = (-1) then (if p0 = 3 then (-1) else (if p0 = 0 then (if a4 = 2 then 46 else (if a4 = 3 then 46 else (-1))) else (-1))) else (fx_X0_statusOfWrongMode a0 a1 p0)))
def fx_X0_statusByOutcome (a0 p0 p1 : Int32) : Int32 := if p1 = 0 then 0 else (if p1 = 1 then (fx_X0_statusOfNoRecord a0 p0) else (if p1 = 2 then (if a0 = 2 then (if 3 < p0 then 90 else 2) else 90) else (if p1 = 3 then (fx_X0_statusOfBarredDouble a0 p0) else (if p1 = 4 then (fx_X0_statusOfNoRoom a0 p0) else (if p1 = 5 then 30 else (if p1 = 6 then (if p0 = 6 then 90 else 51) else (if p1 = 7 then (fx_X0_statusOfLength p0) else (if p1 = 8 then (if a0 = 2 then (if (fx_X0_isWriteOrRewrite p0) = 0 then 90 else 21) else 90) else 90))))))))
def gx_X0_move_2 (a2 p0 p1 : Int32) : Int32 := if (fx_X0_isRead p0) = 0 then (if p0 = 5 then a2 else (if p0 = 6 then (if p1 = 0 then 0 else a2) else a2)) else (if p0 = 6 then (if p1 = 0 then 0 else a2) else a2)
def gx_X0_move_4 (a4 p0 p1 : Int32) : Int32 := if (fx_X0_isRead p0) = 0 then (if p0 = 5 then (fx_X0_placeAfter p1 a4) else a4) else (fx_X0_placeAfter p1 a4)
def fx_X0_statusOfAct (a0 a1 a2 a4 a5 a6 p0 p1 : Int32) : Int32 := if (fx_X0_statusAheadOfOutcome a0 a1 a2 a4 a6 p0) = (-1) then (if p0 = 0 then (if a5 = 0 then (fx_X0_statusByOutcome a0 p0 p1) else 10) else (fx_X0_statusByOutcome a0 p0 p1)) else (fx_X0_statusAheadOfOutcome a0 a1 a2 a4 a6 p0)
def fx_X0_act (a0 a1 a2 a4 a5 a6 p0 p1 : Int32) : Int32 := if p0 < 0 then (-4) else (if p0 ≤ 6 then (fx_X0_statusOfAct a0 a1 a2 a4 a5 a6 p0 p1) else (-4))
def gx_X0_act_2 (a0 a1 a2 a4 a5 a6 p0 p1 : Int32) : Int32 := if p0 < 0 then a2 else (if p0 ≤ 6 then (gx_X0_move_2 a2 p0 (fx_X0_statusOfAct a0 a1 a2 a4 a5 a6 p0 p1)) else a2)
def gx_X0_act_4 (a0 a1 a2 a4 a5 a6 p0 p1 : Int32) : Int32 := if p0 < 0 then a4 else (if p0 ≤ 6 then (gx_X0_move_4 a4 p0 (fx_X0_statusOfAct a0 a1 a2 a4 a5 a6 p0 p1)) else a4)
def gx_X0_act_5 (a5 p0 : Int32) : Int32 := if p0 < 0 then a5 else (if p0 ≤ 6 then (if p0 = 0 then 0 else a5) else a5)
def gx_X0_act_6 (a0 a1 a2 a4 a5 a6 p0 p1 : Int32) : Int32 := if p0 < 0 then a6 else (if p0 ≤ 6 then (if (fx_X0_isRead p0) = 0 then 0 else (if (fx_X0_givesPlace (fx_X0_statusOfAct a0 a1 a2 a4 a5 a6 p0 p1)) = 0 then 0 else 1)) else a6)
def gx_X0_act_7 (a0 a1 a2 a4 a5 a6 a7 p0 p1 : Int32) : Int32 := if p0 < 0 then a7 else (if p0 ≤ 6 then (gx_X0_remember_7 (fx_X0_statusOfAct a0 a1 a2 a4 a5 a6 p0 p1)) else a7)
def gx_X0_act_8 (a8 p0 : Int32) : Int32 := if p0 < 0 then a8 else (if p0 ≤ 6 then (gx_X0_remember_8 p0) else a8)
def gx_X0_act_10 (a0 a1 a2 a4 a5 a6 a10 p0 p1 : Int32) : Int32 := if p0 < 0 then a10 else (if p0 ≤ 6 then (gx_X0_remember_10 a10 p0 (fx_X0_statusOfAct a0 a1 a2 a4 a5 a6 p0 p1)) else a10)
def gx_X0_act_11 (a0 a1 a2 a4 a5 a6 a11 p0 p1 : Int32) : Int32 := if p0 < 0 then a11 else (if p0 ≤ 6 then (gx_X0_remember_11 a11 (fx_X0_statusOfAct a0 a1 a2 a4 a5 a6 p0 p1)) else a11)
