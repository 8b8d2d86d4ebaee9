/-! one order of each side -/
def mPf (J : IT) (o p q c : Int32) : MR :=
  if o = 0 then mNum J (tn p) q
  else if o = 1 then mMov J (tn p) (tn q)
  else if o = 2 then mAdd J (tn p) (tn q)
  else if o = 3 then mSub J (tn p) (tn q)
  else if o = 4 then mSpl J (tn p) (tn q) c
  else if o = 5 then mMer J (tn p) (tn q)
  else if o = 6 then mRes J (tn p) (tn q) c
  else if o = 7 then mFre J (tn p)
  else if o = 8 then mTha J (tn p) (gt J (tn p) 4).toNatClampNeg
  else if o = 9 then mDro J (tn p) (gt J (tn p) 4).toNatClampNeg
  else if o = 10 then mLoa J (tn p) (tn q) (tn (8 + (gt J (tn q) 1 + c))) c
  else if o = 11 then mSto J (tn p) (tn q) (tn (8 + (gt J (tn q) 1 + c))) c
  else if o = 12 then mGo J p
  else if o = 13 then mZer J (tn p) q
  else if o = 14 then mLes J (tn p) (tn q) c
  else if o = 15 then mSea J (tn p) q c
  else if o = 16 then mCal J (tn p) q (tn (J 1000 10)) (gt J (tn p) 4).toNatClampNeg
  else if o = 17 then (if J 1000 10 = 0 then (8, J) else mRet J (tn (J 1000 10) - 1) (tn (J 1010 (4 * (tn (J 1000 10) - 1) + 2))) (tn (J 1010 (4 * (tn (J 1000 10) - 1) + 3))))
  else (-1, J)
def cPf (L : LT) (I : IT) : OR :=
  if I 17 2 = 0 then oNum L I (tn (I 17 3))
  else if I 17 2 = 1 then oMov L I (tn (I 17 3)) (tn (I 17 4))
  else if I 17 2 = 2 then oAdd L I 1 (tn (I 17 3)) (tn (I 17 4))
  else if I 17 2 = 3 then oAdd L I (-1) (tn (I 17 3)) (tn (I 17 4))
  else if I 17 2 = 4 then oSpl L I (tn (I 17 3)) (tn (I 17 4))
  else if I 17 2 = 5 then oMer L I (tn (I 17 3)) (tn (I 17 4))
  else if I 17 2 = 6 then oRes L I (tn (I 17 3)) (tn (I 17 4))
  else if I 17 2 = 7 then oFre L I (tn (I 17 3))
  else if I 17 2 = 8 then oTha L I (tn (I 17 3))
  else if I 17 2 = 9 then oDro L I (tn (I 17 3))
  else if I 17 2 = 10 then oLoa L I (tn (I 17 3)) (tn (I 17 4)) (tn (8 + vFr (L 5 (tn (I 17 4))) + I 17 5))
  else if I 17 2 = 11 then oSto L I (tn (I 17 3)) (tn (I 17 4)) (tn (8 + vFr (L 5 (tn (I 17 4))) + I 17 5))
  else if I 17 2 = 12 then oGo L I
  else if I 17 2 = 13 then oZer L I (tn (I 17 3))
  else if I 17 2 = 14 then oLes L I (tn (I 17 3)) (tn (I 17 4))
  else if I 17 2 = 15 then oSea L I (tn (I 17 3))
  else if I 17 2 = 16 then oCal L I (tn (I 17 3)) (tn (I 4 10))
  else if I 17 2 = 17 then (if I 4 10 = 0 then (8, L, I) else oRet L I (tn (I 4 10) - 1) (tn (I 13 (tn (I 4 10) - 1))) (tn (I 14 (tn (I 4 10) - 1))))
  else oHal L I
theorem mPf_0 {J : IT} {p q c : Int32} : mPf J 0 p q c = mNum J (tn p) q := by rw [mPf, if_pos rfl]
theorem cPf_0 {L : LT} {I : IT} (h : I 17 2 = 0) : cPf L I = oNum L I (tn (I 17 3)) := by rw [cPf, h, if_pos rfl]
theorem mPf_1 {J : IT} {p q c : Int32} : mPf J 1 p q c = mMov J (tn p) (tn q) := by rw [mPf, if_neg (show ¬ (1 : Int32) = 0 by decide), if_pos rfl]
theorem cPf_1 {L : LT} {I : IT} (h : I 17 2 = 1) : cPf L I = oMov L I (tn (I 17 3)) (tn (I 17 4)) := by rw [cPf, h, if_neg (show ¬ (1 : Int32) = 0 by decide), if_pos rfl]
theorem mPf_2 {J : IT} {p q c : Int32} : mPf J 2 p q c = mAdd J (tn p) (tn q) := by rw [mPf, if_neg (show ¬ (2 : Int32) = 0 by decide), if_neg (show ¬ (2 : Int32) = 1 by decide), if_pos rfl]
theorem cPf_2 {L : LT} {I : IT} (h : I 17 2 = 2) : cPf L I = oAdd L I 1 (tn (I 17 3)) (tn (I 17 4)) := by rw [cPf, h, if_neg (show ¬ (2 : Int32) = 0 by decide), if_neg (show ¬ (2 : Int32) = 1 by decide), if_pos rfl]
theorem mPf_3 {J : IT} {p q c : Int32} : mPf J 3 p q c = mSub J (tn p) (tn q) := by rw [mPf, if_neg (show ¬ (3 : Int32) = 0 by decide), if_neg (show ¬ (3 : Int32) = 1 by decide), if_neg (show ¬ (3 : Int32) = 2 by decide), if_pos rfl]
theorem cPf_3 {L : LT} {I : IT} (h : I 17 2 = 3) : cPf L I = oAdd L I (-1) (tn (I 17 3)) (tn (I 17 4)) := by rw [cPf, h, if_neg (show ¬ (3 : Int32) = 0 by decide), if_neg (show ¬ (3 : Int32) = 1 by decide), if_neg (show ¬ (3 : Int32) = 2 by decide), if_pos rfl]
theorem mPf_4 {J : IT} {p q c : Int32} : mPf J 4 p q c = mSpl J (tn p) (tn q) c := by rw [mPf, if_neg (show ¬ (4 : Int32) = 0 by decide), if_neg (show ¬ (4 : Int32) = 1 by decide), if_neg (show ¬ (4 : Int32) = 2 by decide), if_neg (show ¬ (4 : Int32) = 3 by decide), if_pos rfl]
theorem cPf_4 {L : LT} {I : IT} (h : I 17 2 = 4) : cPf L I = oSpl L I (tn (I 17 3)) (tn (I 17 4)) := by rw [cPf, h, if_neg (show ¬ (4 : Int32) = 0 by decide), if_neg (show ¬ (4 : Int32) = 1 by decide), if_neg (show ¬ (4 : Int32) = 2 by decide), if_neg (show ¬ (4 : Int32) = 3 by decide), if_pos rfl]
theorem mPf_5 {J : IT} {p q c : Int32} : mPf J 5 p q c = mMer J (tn p) (tn q) := by rw [mPf, if_neg (show ¬ (5 : Int32) = 0 by decide), if_neg (show ¬ (5 : Int32) = 1 by decide), if_neg (show ¬ (5 : Int32) = 2 by decide), if_neg (show ¬ (5 : Int32) = 3 by decide), if_neg (show ¬ (5 : Int32) = 4 by decide), if_pos rfl]
theorem cPf_5 {L : LT} {I : IT} (h : I 17 2 = 5) : cPf L I = oMer L I (tn (I 17 3)) (tn (I 17 4)) := by rw [cPf, h, if_neg (show ¬ (5 : Int32) = 0 by decide), if_neg (show ¬ (5 : Int32) = 1 by decide), if_neg (show ¬ (5 : Int32) = 2 by decide), if_neg (show ¬ (5 : Int32) = 3 by decide), if_neg (show ¬ (5 : Int32) = 4 by decide), if_pos rfl]
theorem mPf_6 {J : IT} {p q c : Int32} : mPf J 6 p q c = mRes J (tn p) (tn q) c := by rw [mPf, if_neg (show ¬ (6 : Int32) = 0 by decide), if_neg (show ¬ (6 : Int32) = 1 by decide), if_neg (show ¬ (6 : Int32) = 2 by decide), if_neg (show ¬ (6 : Int32) = 3 by decide), if_neg (show ¬ (6 : Int32) = 4 by decide), if_neg (show ¬ (6 : Int32) = 5 by decide), if_pos rfl]
theorem cPf_6 {L : LT} {I : IT} (h : I 17 2 = 6) : cPf L I = oRes L I (tn (I 17 3)) (tn (I 17 4)) := by rw [cPf, h, if_neg (show ¬ (6 : Int32) = 0 by decide), if_neg (show ¬ (6 : Int32) = 1 by decide), if_neg (show ¬ (6 : Int32) = 2 by decide), if_neg (show ¬ (6 : Int32) = 3 by decide), if_neg (show ¬ (6 : Int32) = 4 by decide), if_neg (show ¬ (6 : Int32) = 5 by decide), if_pos rfl]
theorem mPf_7 {J : IT} {p q c : Int32} : mPf J 7 p q c = mFre J (tn p) := by rw [mPf, if_neg (show ¬ (7 : Int32) = 0 by decide), if_neg (show ¬ (7 : Int32) = 1 by decide), if_neg (show ¬ (7 : Int32) = 2 by decide), if_neg (show ¬ (7 : Int32) = 3 by decide), if_neg (show ¬ (7 : Int32) = 4 by decide), if_neg (show ¬ (7 : Int32) = 5 by decide), if_neg (show ¬ (7 : Int32) = 6 by decide), if_pos rfl]
theorem cPf_7 {L : LT} {I : IT} (h : I 17 2 = 7) : cPf L I = oFre L I (tn (I 17 3)) := by rw [cPf, h, if_neg (show ¬ (7 : Int32) = 0 by decide), if_neg (show ¬ (7 : Int32) = 1 by decide), if_neg (show ¬ (7 : Int32) = 2 by decide), if_neg (show ¬ (7 : Int32) = 3 by decide), if_neg (show ¬ (7 : Int32) = 4 by decide), if_neg (show ¬ (7 : Int32) = 5 by decide), if_neg (show ¬ (7 : Int32) = 6 by decide), if_pos rfl]
theorem mPf_8 {J : IT} {p q c : Int32} : mPf J 8 p q c = mTha J (tn p) (gt J (tn p) 4).toNatClampNeg := by rw [mPf, if_neg (show ¬ (8 : Int32) = 0 by decide), if_neg (show ¬ (8 : Int32) = 1 by decide), if_neg (show ¬ (8 : Int32) = 2 by decide), if_neg (show ¬ (8 : Int32) = 3 by decide), if_neg (show ¬ (8 : Int32) = 4 by decide), if_neg (show ¬ (8 : Int32) = 5 by decide), if_neg (show ¬ (8 : Int32) = 6 by decide), if_neg (show ¬ (8 : Int32) = 7 by decide), if_pos rfl]
theorem cPf_8 {L : LT} {I : IT} (h : I 17 2 = 8) : cPf L I = oTha L I (tn (I 17 3)) := by rw [cPf, h, if_neg (show ¬ (8 : Int32) = 0 by decide), if_neg (show ¬ (8 : Int32) = 1 by decide), if_neg (show ¬ (8 : Int32) = 2 by decide), if_neg (show ¬ (8 : Int32) = 3 by decide), if_neg (show ¬ (8 : Int32) = 4 by decide), if_neg (show ¬ (8 : Int32) = 5 by decide), if_neg (show ¬ (8 : Int32) = 6 by decide), if_neg (show ¬ (8 : Int32) = 7 by decide), if_pos rfl]
theorem mPf_9 {J : IT} {p q c : Int32} : mPf J 9 p q c = mDro J (tn p) (gt J (tn p) 4).toNatClampNeg := by rw [mPf, if_neg (show ¬ (9 : Int32) = 0 by decide), if_neg (show ¬ (9 : Int32) = 1 by decide), if_neg (show ¬ (9 : Int32) = 2 by decide), if_neg (show ¬ (9 : Int32) = 3 by decide), if_neg (show ¬ (9 : Int32) = 4 by decide), if_neg (show ¬ (9 : Int32) = 5 by decide), if_neg (show ¬ (9 : Int32) = 6 by decide), if_neg (show ¬ (9 : Int32) = 7 by decide), if_neg (show ¬ (9 : Int32) = 8 by decide), if_pos rfl]
theorem cPf_9 {L : LT} {I : IT} (h : I 17 2 = 9) : cPf L I = oDro L I (tn (I 17 3)) := by rw [cPf, h, if_neg (show ¬ (9 : Int32) = 0 by decide), if_neg (show ¬ (9 : Int32) = 1 by decide), if_neg (show ¬ (9 : Int32) = 2 by decide), if_neg (show ¬ (9 : Int32) = 3 by decide), if_neg (show ¬ (9 : Int32) = 4 by decide), if_neg (show ¬ (9 : Int32) = 5 by decide), if_neg (show ¬ (9 : Int32) = 6 by decide), if_neg (show ¬ (9 : Int32) = 7 by decide), if_neg (show ¬ (9 : Int32) = 8 by decide), if_pos rfl]
theorem mPf_10 {J : IT} {p q c : Int32} : mPf J 10 p q c = mLoa J (tn p) (tn q) (tn (8 + (gt J (tn q) 1 + c))) c := by rw [mPf, if_neg (show ¬ (10 : Int32) = 0 by decide), if_neg (show ¬ (10 : Int32) = 1 by decide), if_neg (show ¬ (10 : Int32) = 2 by decide), if_neg (show ¬ (10 : Int32) = 3 by decide), if_neg (show ¬ (10 : Int32) = 4 by decide), if_neg (show ¬ (10 : Int32) = 5 by decide), if_neg (show ¬ (10 : Int32) = 6 by decide), if_neg (show ¬ (10 : Int32) = 7 by decide), if_neg (show ¬ (10 : Int32) = 8 by decide), if_neg (show ¬ (10 : Int32) = 9 by decide), if_pos rfl]
theorem cPf_10 {L : LT} {I : IT} (h : I 17 2 = 10) : cPf L I = oLoa L I (tn (I 17 3)) (tn (I 17 4)) (tn (8 + vFr (L 5 (tn (I 17 4))) + I 17 5)) := by rw [cPf, h, if_neg (show ¬ (10 : Int32) = 0 by decide), if_neg (show ¬ (10 : Int32) = 1 by decide), if_neg (show ¬ (10 : Int32) = 2 by decide), if_neg (show ¬ (10 : Int32) = 3 by decide), if_neg (show ¬ (10 : Int32) = 4 by decide), if_neg (show ¬ (10 : Int32) = 5 by decide), if_neg (show ¬ (10 : Int32) = 6 by decide), if_neg (show ¬ (10 : Int32) = 7 by decide), if_neg (show ¬ (10 : Int32) = 8 by decide), if_neg (show ¬ (10 : Int32) = 9 by decide), if_pos rfl]
theorem mPf_11 {J : IT} {p q c : Int32} : mPf J 11 p q c = mSto J (tn p) (tn q) (tn (8 + (gt J (tn q) 1 + c))) c := by rw [mPf, if_neg (show ¬ (11 : Int32) = 0 by decide), if_neg (show ¬ (11 : Int32) = 1 by decide), if_neg (show ¬ (11 : Int32) = 2 by decide), if_neg (show ¬ (11 : Int32) = 3 by decide), if_neg (show ¬ (11 : Int32) = 4 by decide), if_neg (show ¬ (11 : Int32) = 5 by decide), if_neg (show ¬ (11 : Int32) = 6 by decide), if_neg (show ¬ (11 : Int32) = 7 by decide), if_neg (show ¬ (11 : Int32) = 8 by decide), if_neg (show ¬ (11 : Int32) = 9 by decide), if_neg (show ¬ (11 : Int32) = 10 by decide), if_pos rfl]
theorem cPf_11 {L : LT} {I : IT} (h : I 17 2 = 11) : cPf L I = oSto L I (tn (I 17 3)) (tn (I 17 4)) (tn (8 + vFr (L 5 (tn (I 17 4))) + I 17 5)) := by rw [cPf, h, if_neg (show ¬ (11 : Int32) = 0 by decide), if_neg (show ¬ (11 : Int32) = 1 by decide), if_neg (show ¬ (11 : Int32) = 2 by decide), if_neg (show ¬ (11 : Int32) = 3 by decide), if_neg (show ¬ (11 : Int32) = 4 by decide), if_neg (show ¬ (11 : Int32) = 5 by decide), if_neg (show ¬ (11 : Int32) = 6 by decide), if_neg (show ¬ (11 : Int32) = 7 by decide), if_neg (show ¬ (11 : Int32) = 8 by decide), if_neg (show ¬ (11 : Int32) = 9 by decide), if_neg (show ¬ (11 : Int32) = 10 by decide), if_pos rfl]
theorem mPf_12 {J : IT} {p q c : Int32} : mPf J 12 p q c = mGo J p := by rw [mPf, if_neg (show ¬ (12 : Int32) = 0 by decide), if_neg (show ¬ (12 : Int32) = 1 by decide), if_neg (show ¬ (12 : Int32) = 2 by decide), if_neg (show ¬ (12 : Int32) = 3 by decide), if_neg (show ¬ (12 : Int32) = 4 by decide), if_neg (show ¬ (12 : Int32) = 5 by decide), if_neg (show ¬ (12 : Int32) = 6 by decide), if_neg (show ¬ (12 : Int32) = 7 by decide), if_neg (show ¬ (12 : Int32) = 8 by decide), if_neg (show ¬ (12 : Int32) = 9 by decide), if_neg (show ¬ (12 : Int32) = 10 by decide), if_neg (show ¬ (12 : Int32) = 11 by decide), if_pos rfl]
theorem cPf_12 {L : LT} {I : IT} (h : I 17 2 = 12) : cPf L I = oGo L I := by rw [cPf, h, if_neg (show ¬ (12 : Int32) = 0 by decide), if_neg (show ¬ (12 : Int32) = 1 by decide), if_neg (show ¬ (12 : Int32) = 2 by decide), if_neg (show ¬ (12 : Int32) = 3 by decide), if_neg (show ¬ (12 : Int32) = 4 by decide), if_neg (show ¬ (12 : Int32) = 5 by decide), if_neg (show ¬ (12 : Int32) = 6 by decide), if_neg (show ¬ (12 : Int32) = 7 by decide), if_neg (show ¬ (12 : Int32) = 8 by decide), if_neg (show ¬ (12 : Int32) = 9 by decide), if_neg (show ¬ (12 : Int32) = 10 by decide), if_neg (show ¬ (12 : Int32) = 11 by decide), if_pos rfl]
theorem mPf_13 {J : IT} {p q c : Int32} : mPf J 13 p q c = mZer J (tn p) q := by rw [mPf, if_neg (show ¬ (13 : Int32) = 0 by decide), if_neg (show ¬ (13 : Int32) = 1 by decide), if_neg (show ¬ (13 : Int32) = 2 by decide), if_neg (show ¬ (13 : Int32) = 3 by decide), if_neg (show ¬ (13 : Int32) = 4 by decide), if_neg (show ¬ (13 : Int32) = 5 by decide), if_neg (show ¬ (13 : Int32) = 6 by decide), if_neg (show ¬ (13 : Int32) = 7 by decide), if_neg (show ¬ (13 : Int32) = 8 by decide), if_neg (show ¬ (13 : Int32) = 9 by decide), if_neg (show ¬ (13 : Int32) = 10 by decide), if_neg (show ¬ (13 : Int32) = 11 by decide), if_neg (show ¬ (13 : Int32) = 12 by decide), if_pos rfl]
theorem cPf_13 {L : LT} {I : IT} (h : I 17 2 = 13) : cPf L I = oZer L I (tn (I 17 3)) := by rw [cPf, h, if_neg (show ¬ (13 : Int32) = 0 by decide), if_neg (show ¬ (13 : Int32) = 1 by decide), if_neg (show ¬ (13 : Int32) = 2 by decide), if_neg (show ¬ (13 : Int32) = 3 by decide), if_neg (show ¬ (13 : Int32) = 4 by decide), if_neg (show ¬ (13 : Int32) = 5 by decide), if_neg (show ¬ (13 : Int32) = 6 by decide), if_neg (show ¬ (13 : Int32) = 7 by decide), if_neg (show ¬ (13 : Int32) = 8 by decide), if_neg (show ¬ (13 : Int32) = 9 by decide), if_neg (show ¬ (13 : Int32) = 10 by decide), if_neg (show ¬ (13 : Int32) = 11 by decide), if_neg (show ¬ (13 : Int32) = 12 by decide), if_pos rfl]
theorem mPf_14 {J : IT} {p q c : Int32} : mPf J 14 p q c = mLes J (tn p) (tn q) c := by rw [mPf, if_neg (show ¬ (14 : Int32) = 0 by decide), if_neg (show ¬ (14 : Int32) = 1 by decide), if_neg (show ¬ (14 : Int32) = 2 by decide), if_neg (show ¬ (14 : Int32) = 3 by decide), if_neg (show ¬ (14 : Int32) = 4 by decide), if_neg (show ¬ (14 : Int32) = 5 by decide), if_neg (show ¬ (14 : Int32) = 6 by decide), if_neg (show ¬ (14 : Int32) = 7 by decide), if_neg (show ¬ (14 : Int32) = 8 by decide), if_neg (show ¬ (14 : Int32) = 9 by decide), if_neg (show ¬ (14 : Int32) = 10 by decide), if_neg (show ¬ (14 : Int32) = 11 by decide), if_neg (show ¬ (14 : Int32) = 12 by decide), if_neg (show ¬ (14 : Int32) = 13 by decide), if_pos rfl]
theorem cPf_14 {L : LT} {I : IT} (h : I 17 2 = 14) : cPf L I = oLes L I (tn (I 17 3)) (tn (I 17 4)) := by rw [cPf, h, if_neg (show ¬ (14 : Int32) = 0 by decide), if_neg (show ¬ (14 : Int32) = 1 by decide), if_neg (show ¬ (14 : Int32) = 2 by decide), if_neg (show ¬ (14 : Int32) = 3 by decide), if_neg (show ¬ (14 : Int32) = 4 by decide), if_neg (show ¬ (14 : Int32) = 5 by decide), if_neg (show ¬ (14 : Int32) = 6 by decide), if_neg (show ¬ (14 : Int32) = 7 by decide), if_neg (show ¬ (14 : Int32) = 8 by decide), if_neg (show ¬ (14 : Int32) = 9 by decide), if_neg (show ¬ (14 : Int32) = 10 by decide), if_neg (show ¬ (14 : Int32) = 11 by decide), if_neg (show ¬ (14 : Int32) = 12 by decide), if_neg (show ¬ (14 : Int32) = 13 by decide), if_pos rfl]
theorem mPf_15 {J : IT} {p q c : Int32} : mPf J 15 p q c = mSea J (tn p) q c := by rw [mPf, if_neg (show ¬ (15 : Int32) = 0 by decide), if_neg (show ¬ (15 : Int32) = 1 by decide), if_neg (show ¬ (15 : Int32) = 2 by decide), if_neg (show ¬ (15 : Int32) = 3 by decide), if_neg (show ¬ (15 : Int32) = 4 by decide), if_neg (show ¬ (15 : Int32) = 5 by decide), if_neg (show ¬ (15 : Int32) = 6 by decide), if_neg (show ¬ (15 : Int32) = 7 by decide), if_neg (show ¬ (15 : Int32) = 8 by decide), if_neg (show ¬ (15 : Int32) = 9 by decide), if_neg (show ¬ (15 : Int32) = 10 by decide), if_neg (show ¬ (15 : Int32) = 11 by decide), if_neg (show ¬ (15 : Int32) = 12 by decide), if_neg (show ¬ (15 : Int32) = 13 by decide), if_neg (show ¬ (15 : Int32) = 14 by decide), if_pos rfl]
theorem cPf_15 {L : LT} {I : IT} (h : I 17 2 = 15) : cPf L I = oSea L I (tn (I 17 3)) := by rw [cPf, h, if_neg (show ¬ (15 : Int32) = 0 by decide), if_neg (show ¬ (15 : Int32) = 1 by decide), if_neg (show ¬ (15 : Int32) = 2 by decide), if_neg (show ¬ (15 : Int32) = 3 by decide), if_neg (show ¬ (15 : Int32) = 4 by decide), if_neg (show ¬ (15 : Int32) = 5 by decide), if_neg (show ¬ (15 : Int32) = 6 by decide), if_neg (show ¬ (15 : Int32) = 7 by decide), if_neg (show ¬ (15 : Int32) = 8 by decide), if_neg (show ¬ (15 : Int32) = 9 by decide), if_neg (show ¬ (15 : Int32) = 10 by decide), if_neg (show ¬ (15 : Int32) = 11 by decide), if_neg (show ¬ (15 : Int32) = 12 by decide), if_neg (show ¬ (15 : Int32) = 13 by decide), if_neg (show ¬ (15 : Int32) = 14 by decide), if_pos rfl]
theorem mPf_16 {J : IT} {p q c : Int32} : mPf J 16 p q c = mCal J (tn p) q (tn (J 1000 10)) (gt J (tn p) 4).toNatClampNeg := by rw [mPf, if_neg (show ¬ (16 : Int32) = 0 by decide), if_neg (show ¬ (16 : Int32) = 1 by decide), if_neg (show ¬ (16 : Int32) = 2 by decide), if_neg (show ¬ (16 : Int32) = 3 by decide), if_neg (show ¬ (16 : Int32) = 4 by decide), if_neg (show ¬ (16 : Int32) = 5 by decide), if_neg (show ¬ (16 : Int32) = 6 by decide), if_neg (show ¬ (16 : Int32) = 7 by decide), if_neg (show ¬ (16 : Int32) = 8 by decide), if_neg (show ¬ (16 : Int32) = 9 by decide), if_neg (show ¬ (16 : Int32) = 10 by decide), if_neg (show ¬ (16 : Int32) = 11 by decide), if_neg (show ¬ (16 : Int32) = 12 by decide), if_neg (show ¬ (16 : Int32) = 13 by decide), if_neg (show ¬ (16 : Int32) = 14 by decide), if_neg (show ¬ (16 : Int32) = 15 by decide), if_pos rfl]
theorem cPf_16 {L : LT} {I : IT} (h : I 17 2 = 16) : cPf L I = oCal L I (tn (I 17 3)) (tn (I 4 10)) := by rw [cPf, h, if_neg (show ¬ (16 : Int32) = 0 by decide), if_neg (show ¬ (16 : Int32) = 1 by decide), if_neg (show ¬ (16 : Int32) = 2 by decide), if_neg (show ¬ (16 : Int32) = 3 by decide), if_neg (show ¬ (16 : Int32) = 4 by decide), if_neg (show ¬ (16 : Int32) = 5 by decide), if_neg (show ¬ (16 : Int32) = 6 by decide), if_neg (show ¬ (16 : Int32) = 7 by decide), if_neg (show ¬ (16 : Int32) = 8 by decide), if_neg (show ¬ (16 : Int32) = 9 by decide), if_neg (show ¬ (16 : Int32) = 10 by decide), if_neg (show ¬ (16 : Int32) = 11 by decide), if_neg (show ¬ (16 : Int32) = 12 by decide), if_neg (show ¬ (16 : Int32) = 13 by decide), if_neg (show ¬ (16 : Int32) = 14 by decide), if_neg (show ¬ (16 : Int32) = 15 by decide), if_pos rfl]
theorem mPf_17 {J : IT} {p q c : Int32} : mPf J 17 p q c = (if J 1000 10 = 0 then (8, J) else mRet J (tn (J 1000 10) - 1) (tn (J 1010 (4 * (tn (J 1000 10) - 1) + 2))) (tn (J 1010 (4 * (tn (J 1000 10) - 1) + 3)))) := by rw [mPf, if_neg (show ¬ (17 : Int32) = 0 by decide), if_neg (show ¬ (17 : Int32) = 1 by decide), if_neg (show ¬ (17 : Int32) = 2 by decide), if_neg (show ¬ (17 : Int32) = 3 by decide), if_neg (show ¬ (17 : Int32) = 4 by decide), if_neg (show ¬ (17 : Int32) = 5 by decide), if_neg (show ¬ (17 : Int32) = 6 by decide), if_neg (show ¬ (17 : Int32) = 7 by decide), if_neg (show ¬ (17 : Int32) = 8 by decide), if_neg (show ¬ (17 : Int32) = 9 by decide), if_neg (show ¬ (17 : Int32) = 10 by decide), if_neg (show ¬ (17 : Int32) = 11 by decide), if_neg (show ¬ (17 : Int32) = 12 by decide), if_neg (show ¬ (17 : Int32) = 13 by decide), if_neg (show ¬ (17 : Int32) = 14 by decide), if_neg (show ¬ (17 : Int32) = 15 by decide), if_neg (show ¬ (17 : Int32) = 16 by decide), if_pos rfl]
theorem cPf_17 {L : LT} {I : IT} (h : I 17 2 = 17) : cPf L I = (if I 4 10 = 0 then (8, L, I) else oRet L I (tn (I 4 10) - 1) (tn (I 13 (tn (I 4 10) - 1))) (tn (I 14 (tn (I 4 10) - 1)))) := by rw [cPf, h, if_neg (show ¬ (17 : Int32) = 0 by decide), if_neg (show ¬ (17 : Int32) = 1 by decide), if_neg (show ¬ (17 : Int32) = 2 by decide), if_neg (show ¬ (17 : Int32) = 3 by decide), if_neg (show ¬ (17 : Int32) = 4 by decide), if_neg (show ¬ (17 : Int32) = 5 by decide), if_neg (show ¬ (17 : Int32) = 6 by decide), if_neg (show ¬ (17 : Int32) = 7 by decide), if_neg (show ¬ (17 : Int32) = 8 by decide), if_neg (show ¬ (17 : Int32) = 9 by decide), if_neg (show ¬ (17 : Int32) = 10 by decide), if_neg (show ¬ (17 : Int32) = 11 by decide), if_neg (show ¬ (17 : Int32) = 12 by decide), if_neg (show ¬ (17 : Int32) = 13 by decide), if_neg (show ¬ (17 : Int32) = 14 by decide), if_neg (show ¬ (17 : Int32) = 15 by decide), if_neg (show ¬ (17 : Int32) = 16 by decide), if_pos rfl]
theorem mPf_18 {J : IT} {p q c : Int32} : mPf J 18 p q c = (-1, J) := by rw [mPf, if_neg (show ¬ (18 : Int32) = 0 by decide), if_neg (show ¬ (18 : Int32) = 1 by decide), if_neg (show ¬ (18 : Int32) = 2 by decide), if_neg (show ¬ (18 : Int32) = 3 by decide), if_neg (show ¬ (18 : Int32) = 4 by decide), if_neg (show ¬ (18 : Int32) = 5 by decide), if_neg (show ¬ (18 : Int32) = 6 by decide), if_neg (show ¬ (18 : Int32) = 7 by decide), if_neg (show ¬ (18 : Int32) = 8 by decide), if_neg (show ¬ (18 : Int32) = 9 by decide), if_neg (show ¬ (18 : Int32) = 10 by decide), if_neg (show ¬ (18 : Int32) = 11 by decide), if_neg (show ¬ (18 : Int32) = 12 by decide), if_neg (show ¬ (18 : Int32) = 13 by decide), if_neg (show ¬ (18 : Int32) = 14 by decide), if_neg (show ¬ (18 : Int32) = 15 by decide), if_neg (show ¬ (18 : Int32) = 16 by decide), if_neg (show ¬ (18 : Int32) = 17 by decide)]
theorem cPf_18 {L : LT} {I : IT} (h : I 17 2 = 18) : cPf L I = oHal L I := by rw [cPf, h, if_neg (show ¬ (18 : Int32) = 0 by decide), if_neg (show ¬ (18 : Int32) = 1 by decide), if_neg (show ¬ (18 : Int32) = 2 by decide), if_neg (show ¬ (18 : Int32) = 3 by decide), if_neg (show ¬ (18 : Int32) = 4 by decide), if_neg (show ¬ (18 : Int32) = 5 by decide), if_neg (show ¬ (18 : Int32) = 6 by decide), if_neg (show ¬ (18 : Int32) = 7 by decide), if_neg (show ¬ (18 : Int32) = 8 by decide), if_neg (show ¬ (18 : Int32) = 9 by decide), if_neg (show ¬ (18 : Int32) = 10 by decide), if_neg (show ¬ (18 : Int32) = 11 by decide), if_neg (show ¬ (18 : Int32) = 12 by decide), if_neg (show ¬ (18 : Int32) = 13 by decide), if_neg (show ¬ (18 : Int32) = 14 by decide), if_neg (show ¬ (18 : Int32) = 15 by decide), if_neg (show ¬ (18 : Int32) = 16 by decide), if_neg (show ¬ (18 : Int32) = 17 by decide)]
def wfo (o p q c : Int32) : Bool :=
  if o < 0 ∨ ¬ o < 19 then false
  else if (¬ nmi o.toNatClampNeg < 1 ∧ isR p = false) ∨ (¬ nmi o.toNatClampNeg < 2 ∧ isR q = false) then false
  else if o = 15 then decide (¬ q < 0 ∧ ¬ 3 ≤ q ∧ ¬ c < 0 ∧ ¬ 63 < c) else if o = 16 then decide (¬ q < 0 ∧ ¬ 6 < q) else true
theorem wfm_o {I : IT} : wfm I = wfo (I 17 2) (I 17 3) (I 17 4) (I 17 5) := rfl
theorem isR_z {p : Int32} : isR p = inz p 0 7 := by
  unfold isR inz
  have e : p < 8 ↔ ¬ 7 < p := by rw [Int32.lt_iff_toInt_lt, Int32.lt_iff_toInt_lt, show (8 : Int32).toInt = 8 from rfl, show (7 : Int32).toInt = 7 from rfl]; omega
  have e2 : 0 ≤ p ↔ ¬ p < 0 := Int32.not_lt.symm
  by_cases x : p < 0 <;> by_cases y : 7 < p <;> simp [e, e2, x, y]
theorem b15 {q c : Int32} : decide (¬ q < 0 ∧ ¬ 3 ≤ q ∧ ¬ c < 0 ∧ ¬ 63 < c) = (inz q 0 2 && inz c 0 63) := by
  unfold inz
  have e : 3 ≤ q ↔ 2 < q := by rw [Int32.le_iff_toInt_le, Int32.lt_iff_toInt_lt, show (3 : Int32).toInt = 3 from rfl, show (2 : Int32).toInt = 2 from rfl]; omega
  by_cases x : q < 0 <;> by_cases y : 2 < q <;> by_cases z : c < 0 <;> by_cases w : 63 < c <;> simp [e, x, y, z, w]
theorem b16 {q : Int32} : decide (¬ q < 0 ∧ ¬ 6 < q) = inz q 0 6 := by
  unfold inz
  by_cases x : q < 0 <;> by_cases y : 6 < q <;> simp [x, y]
theorem wfo_0 {p q c : Int32} : wfo 0 p q c = (inz p 0 7) := by
  unfold wfo
  rw [b15, b16, isR_z, isR_z, show nmi (Int32.toNatClampNeg 0) = 1 from by decide]
  generalize inz p 0 7 = x
  generalize inz q 0 7 = y
  generalize inz q 0 2 = z
  generalize inz q 0 6 = v
  generalize inz c 0 63 = w
  revert x y z v w
  decide
theorem wfo_1 {p q c : Int32} : wfo 1 p q c = (inz p 0 7 && inz q 0 7) := by
  unfold wfo
  rw [b15, b16, isR_z, isR_z, show nmi (Int32.toNatClampNeg 1) = 2 from by decide]
  generalize inz p 0 7 = x
  generalize inz q 0 7 = y
  generalize inz q 0 2 = z
  generalize inz q 0 6 = v
  generalize inz c 0 63 = w
  revert x y z v w
  decide
theorem wfo_2 {p q c : Int32} : wfo 2 p q c = (inz p 0 7 && inz q 0 7) := by
  unfold wfo
  rw [b15, b16, isR_z, isR_z, show nmi (Int32.toNatClampNeg 2) = 2 from by decide]
  generalize inz p 0 7 = x
  generalize inz q 0 7 = y
  generalize inz q 0 2 = z
  generalize inz q 0 6 = v
  generalize inz c 0 63 = w
  revert x y z v w
  decide
theorem wfo_3 {p q c : Int32} : wfo 3 p q c = (inz p 0 7 && inz q 0 7) := by
  unfold wfo
  rw [b15, b16, isR_z, isR_z, show nmi (Int32.toNatClampNeg 3) = 2 from by decide]
  generalize inz p 0 7 = x
  generalize inz q 0 7 = y
  generalize inz q 0 2 = z
  generalize inz q 0 6 = v
  generalize inz c 0 63 = w
  revert x y z v w
  decide
theorem wfo_4 {p q c : Int32} : wfo 4 p q c = (inz p 0 7 && inz q 0 7) := by
  unfold wfo
  rw [b15, b16, isR_z, isR_z, show nmi (Int32.toNatClampNeg 4) = 2 from by decide]
  generalize inz p 0 7 = x
  generalize inz q 0 7 = y
  generalize inz q 0 2 = z
  generalize inz q 0 6 = v
  generalize inz c 0 63 = w
  revert x y z v w
  decide
theorem wfo_5 {p q c : Int32} : wfo 5 p q c = (inz p 0 7 && inz q 0 7) := by
  unfold wfo
  rw [b15, b16, isR_z, isR_z, show nmi (Int32.toNatClampNeg 5) = 2 from by decide]
  generalize inz p 0 7 = x
  generalize inz q 0 7 = y
  generalize inz q 0 2 = z
  generalize inz q 0 6 = v
  generalize inz c 0 63 = w
  revert x y z v w
  decide
theorem wfo_6 {p q c : Int32} : wfo 6 p q c = (inz p 0 7 && inz q 0 7) := by
  unfold wfo
  rw [b15, b16, isR_z, isR_z, show nmi (Int32.toNatClampNeg 6) = 2 from by decide]
  generalize inz p 0 7 = x
  generalize inz q 0 7 = y
  generalize inz q 0 2 = z
  generalize inz q 0 6 = v
  generalize inz c 0 63 = w
  revert x y z v w
  decide
theorem wfo_7 {p q c : Int32} : wfo 7 p q c = (inz p 0 7) := by
  unfold wfo
  rw [b15, b16, isR_z, isR_z, show nmi (Int32.toNatClampNeg 7) = 1 from by decide]
  generalize inz p 0 7 = x
  generalize inz q 0 7 = y
  generalize inz q 0 2 = z
  generalize inz q 0 6 = v
  generalize inz c 0 63 = w
  revert x y z v w
  decide
theorem wfo_8 {p q c : Int32} : wfo 8 p q c = (inz p 0 7) := by
  unfold wfo
  rw [b15, b16, isR_z, isR_z, show nmi (Int32.toNatClampNeg 8) = 1 from by decide]
  generalize inz p 0 7 = x
  generalize inz q 0 7 = y
  generalize inz q 0 2 = z
  generalize inz q 0 6 = v
  generalize inz c 0 63 = w
  revert x y z v w
  decide
theorem wfo_9 {p q c : Int32} : wfo 9 p q c = (inz p 0 7) := by
  unfold wfo
  rw [b15, b16, isR_z, isR_z, show nmi (Int32.toNatClampNeg 9) = 1 from by decide]
  generalize inz p 0 7 = x
  generalize inz q 0 7 = y
  generalize inz q 0 2 = z
  generalize inz q 0 6 = v
  generalize inz c 0 63 = w
  revert x y z v w
  decide
theorem wfo_10 {p q c : Int32} : wfo 10 p q c = (inz p 0 7 && inz q 0 7) := by
  unfold wfo
  rw [b15, b16, isR_z, isR_z, show nmi (Int32.toNatClampNeg 10) = 2 from by decide]
  generalize inz p 0 7 = x
  generalize inz q 0 7 = y
  generalize inz q 0 2 = z
  generalize inz q 0 6 = v
  generalize inz c 0 63 = w
  revert x y z v w
  decide
theorem wfo_11 {p q c : Int32} : wfo 11 p q c = (inz p 0 7 && inz q 0 7) := by
  unfold wfo
  rw [b15, b16, isR_z, isR_z, show nmi (Int32.toNatClampNeg 11) = 2 from by decide]
  generalize inz p 0 7 = x
  generalize inz q 0 7 = y
  generalize inz q 0 2 = z
  generalize inz q 0 6 = v
  generalize inz c 0 63 = w
  revert x y z v w
  decide
theorem wfo_12 {p q c : Int32} : wfo 12 p q c = (true) := by
  unfold wfo
  rw [b15, b16, isR_z, isR_z, show nmi (Int32.toNatClampNeg 12) = 0 from by decide]
  generalize inz p 0 7 = x
  generalize inz q 0 7 = y
  generalize inz q 0 2 = z
  generalize inz q 0 6 = v
  generalize inz c 0 63 = w
  revert x y z v w
  decide
theorem wfo_13 {p q c : Int32} : wfo 13 p q c = (inz p 0 7) := by
  unfold wfo
  rw [b15, b16, isR_z, isR_z, show nmi (Int32.toNatClampNeg 13) = 1 from by decide]
  generalize inz p 0 7 = x
  generalize inz q 0 7 = y
  generalize inz q 0 2 = z
  generalize inz q 0 6 = v
  generalize inz c 0 63 = w
  revert x y z v w
  decide
theorem wfo_14 {p q c : Int32} : wfo 14 p q c = (inz p 0 7 && inz q 0 7) := by
  unfold wfo
  rw [b15, b16, isR_z, isR_z, show nmi (Int32.toNatClampNeg 14) = 2 from by decide]
  generalize inz p 0 7 = x
  generalize inz q 0 7 = y
  generalize inz q 0 2 = z
  generalize inz q 0 6 = v
  generalize inz c 0 63 = w
  revert x y z v w
  decide
theorem wfo_15 {p q c : Int32} : wfo 15 p q c = (inz p 0 7 && inz q 0 2 && inz c 0 63) := by
  unfold wfo
  rw [b15, b16, isR_z, isR_z, show nmi (Int32.toNatClampNeg 15) = 1 from by decide]
  generalize inz p 0 7 = x
  generalize inz q 0 7 = y
  generalize inz q 0 2 = z
  generalize inz q 0 6 = v
  generalize inz c 0 63 = w
  revert x y z v w
  decide
theorem wfo_16 {p q c : Int32} : wfo 16 p q c = (inz p 0 7 && inz q 0 6) := by
  unfold wfo
  rw [b15, b16, isR_z, isR_z, show nmi (Int32.toNatClampNeg 16) = 1 from by decide]
  generalize inz p 0 7 = x
  generalize inz q 0 7 = y
  generalize inz q 0 2 = z
  generalize inz q 0 6 = v
  generalize inz c 0 63 = w
  revert x y z v w
  decide
theorem wfo_17 {p q c : Int32} : wfo 17 p q c = (true) := by
  unfold wfo
  rw [b15, b16, isR_z, isR_z, show nmi (Int32.toNatClampNeg 17) = 0 from by decide]
  generalize inz p 0 7 = x
  generalize inz q 0 7 = y
  generalize inz q 0 2 = z
  generalize inz q 0 6 = v
  generalize inz c 0 63 = w
  revert x y z v w
  decide
theorem wfo_18 {p q c : Int32} : wfo 18 p q c = (true) := by
  unfold wfo
  rw [b15, b16, isR_z, isR_z, show nmi (Int32.toNatClampNeg 18) = 0 from by decide]
  generalize inz p 0 7 = x
  generalize inz q 0 7 = y
  generalize inz q 0 2 = z
  generalize inz q 0 6 = v
  generalize inz c 0 63 = w
  revert x y z v w
  decide
theorem ix18 {o : Int32} (h : inz o 0 18 = true) : o = 0 ∨ o = 1 ∨ o = 2 ∨ o = 3 ∨ o = 4 ∨ o = 5 ∨ o = 6 ∨ o = 7 ∨ o = 8 ∨ o = 9 ∨ o = 10 ∨ o = 11 ∨ o = 12 ∨ o = 13 ∨ o = 14 ∨ o = 15 ∨ o = 16 ∨ o = 17 ∨ o = 18 := by
  obtain ⟨e, hl⟩ := inz_nI (n := 18) rfl (by decide) h
  generalize o.toNatClampNeg = k at e hl
  subst e
  rcases (by omega : k = 0 ∨ k = 1 ∨ k = 2 ∨ k = 3 ∨ k = 4 ∨ k = 5 ∨ k = 6 ∨ k = 7 ∨ k = 8 ∨ k = 9 ∨ k = 10 ∨ k = 11 ∨ k = 12 ∨ k = 13 ∨ k = 14 ∨ k = 15 ∨ k = 16 ∨ k = 17 ∨ k = 18) with rfl | rfl | rfl | rfl | rfl | rfl | rfl | rfl | rfl | rfl | rfl | rfl | rfl | rfl | rfl | rfl | rfl | rfl | rfl <;> decide
theorem wfo_out {o p q c : Int32} (h : inz o 0 18 = false) : wfo o p q c = false := by
  unfold wfo
  refine if_pos ?_
  have e : o < 19 ↔ ¬ 18 < o := by rw [Int32.lt_iff_toInt_lt, Int32.lt_iff_toInt_lt, show (19 : Int32).toInt = 19 from rfl, show (18 : Int32).toInt = 18 from rfl]; omega
  unfold inz at h
  by_cases x : o < 0
  · exact Or.inl x
  · refine Or.inr (fun z => ?_)
    rw [decide_eq_false x, decide_eq_false (e.mp z)] at h; exact absurd h (by decide)
theorem out_n {o : Int32} (h : inz o 0 18 = false) : inz o 0 16 = false ∧ inz o 1 6 = false ∧ ¬ o = 10 ∧ ¬ o = 11 ∧ ¬ o = 14 := by
  have z : ∀ l u : Int32, 0 ≤ l.toInt → u.toInt ≤ 18 → inz o l u = false := by
    intro l u h1 h2
    unfold inz at h ⊢
    have h18 : (18 : Int32).toInt = 18 := rfl
    have h0 : (0 : Int32).toInt = 0 := rfl
    by_cases x : o < l
    · rw [decide_eq_true x]; rfl
    · by_cases y : u < o
      · rw [decide_eq_true y, Bool.and_comm]; rfl
      · have x' : ¬ o < 0 := fun t => x (by rw [Int32.lt_iff_toInt_lt] at t ⊢; omega)
        have y' : ¬ 18 < o := fun t => y (by rw [Int32.lt_iff_toInt_lt] at t ⊢; omega)
        rw [decide_eq_false x', decide_eq_false y'] at h; exact absurd h (by decide)
  refine ⟨z 0 16 (by decide) (by decide), z 1 6 (by decide) (by decide), ?_, ?_, ?_⟩ <;> (intro e; rw [e] at h; exact absurd h (by decide))
section ONE
variable {G : GW} {L : LT} {I J : IT} {r : Nat}
theorem sm8 {p : Int32} (h : inz p 0 7 = true) : p = nI (tn p) ∧ tn p < 8 := sm_inz (n := 7) rfl (by decide) h
theorem and_t {x y : Bool} (h : (x && y) = true) : x = true ∧ y = true := by simpa using h
/-- a cell's number, where a place is shared -/
theorem hk2 (h : K1 L I J) {p : Nat} (hp : p < 102) (h2 : gt J p 0 = 2) : vp_in (gt J p 4) 6 := sm_in (K_cs h hp (Or.inl h2)) (by decide)
theorem w_eq (h : K1 L I J) {b : Nat} (hb : b < 102) (h0 : ¬ (gt J b 0 = 0 ∨ gt J b 0 = 3)) {n : Int32} : 8 + vFr (L 5 b) + n = 8 + (gt J b 1 + n) := by
  rw [K_f h hb (fun z => h0 (Or.inl z)), Int32.add_assoc]
def pfC (G : GW) (L : LT) (I : IT) (r : Nat) (q : OR) : Prop := mt G M_Pr_perform 4 0 0 [.ref 17] (hp L I r) (dt (some (.int q.1)) (hp q.2.1 q.2.2 r))
theorem one_0 (h : KR L I J) (ho : I 17 2 = 0) (ha : inz (I 17 3) 0 7 = true) : pfC G L I r (cPf L I) ∧ KK (cPf L I).2.1 (rF (cPf L I)) (mQ 0 (mPf J 0 (I 17 3) (I 17 4) (I 17 5))) := by
  rw [cPf_0 ho, mPf_0]
  have sa := sm8 ha
  exact ⟨t_perf_0 sa.1 sa.2 ho, sim_0 h sa.2⟩
theorem one_1 (h : KR L I J) (ho : I 17 2 = 1) (ha : inz (I 17 3) 0 7 = true) (hb : inz (I 17 4) 0 7 = true) : pfC G L I r (cPf L I) ∧ KK (cPf L I).2.1 (rF (cPf L I)) (mQ 1 (mPf J 1 (I 17 3) (I 17 4) (I 17 5))) := by
  rw [cPf_1 ho, mPf_1]
  have sa := sm8 ha
  have sb := sm8 hb
  exact ⟨t_perf_1 sa.1 sa.2 sb.1 sb.2 (fun z => K_lt h.1 (by omega) (Or.inl z)) ho, sim_1 h sa.2 sb.2⟩
theorem one_2 (h : KR L I J) (ho : I 17 2 = 2) (ha : inz (I 17 3) 0 7 = true) (hb : inz (I 17 4) 0 7 = true) : pfC G L I r (cPf L I) ∧ KK (cPf L I).2.1 (rF (cPf L I)) (mQ 2 (mPf J 2 (I 17 3) (I 17 4) (I 17 5))) := by
  rw [cPf_2 ho, mPf_2]
  have sa := sm8 ha
  have sb := sm8 hb
  exact ⟨t_perf_2 sa.1 sa.2 sb.1 sb.2 ho, sim_2 h sa.2 sb.2⟩
theorem one_3 (h : KR L I J) (ho : I 17 2 = 3) (ha : inz (I 17 3) 0 7 = true) (hb : inz (I 17 4) 0 7 = true) : pfC G L I r (cPf L I) ∧ KK (cPf L I).2.1 (rF (cPf L I)) (mQ 3 (mPf J 3 (I 17 3) (I 17 4) (I 17 5))) := by
  rw [cPf_3 ho, mPf_3]
  have sa := sm8 ha
  have sb := sm8 hb
  exact ⟨t_perf_3 sa.1 sa.2 sb.1 sb.2 ho, sim_3 h sa.2 sb.2⟩
theorem one_4 (h : KR L I J) (ho : I 17 2 = 4) (ha : inz (I 17 3) 0 7 = true) (hb : inz (I 17 4) 0 7 = true) : pfC G L I r (cPf L I) ∧ KK (cPf L I).2.1 (rF (cPf L I)) (mQ 4 (mPf J 4 (I 17 3) (I 17 4) (I 17 5))) := by
  rw [cPf_4 ho, mPf_4]
  have sa := sm8 ha
  have sb := sm8 hb
  exact ⟨t_perf_4 sa.1 sa.2 sb.1 sb.2 ho, sim_4 h sa.2 sb.2⟩
theorem one_6 (h : KR L I J) (ho : I 17 2 = 6) (ha : inz (I 17 3) 0 7 = true) (hb : inz (I 17 4) 0 7 = true) : pfC G L I r (cPf L I) ∧ KK (cPf L I).2.1 (rF (cPf L I)) (mQ 6 (mPf J 6 (I 17 3) (I 17 4) (I 17 5))) := by
  rw [cPf_6 ho, mPf_6]
  have sa := sm8 ha
  have sb := sm8 hb
  exact ⟨t_perf_6 sa.1 sa.2 sb.1 sb.2 ho, sim_6 h sa.2 sb.2⟩
theorem one_14 (h : KR L I J) (ho : I 17 2 = 14) (ha : inz (I 17 3) 0 7 = true) (hb : inz (I 17 4) 0 7 = true) : pfC G L I r (cPf L I) ∧ KK (cPf L I).2.1 (rF (cPf L I)) (mQ 14 (mPf J 14 (I 17 3) (I 17 4) (I 17 5))) := by
  rw [cPf_14 ho, mPf_14]
  have sa := sm8 ha
  have sb := sm8 hb
  exact ⟨t_perf_14 sa.1 sa.2 sb.1 sb.2 ho, sim_14 h sa.2 sb.2⟩
theorem one_5 (h : KR L I J) (ho : I 17 2 = 5) (ha : inz (I 17 3) 0 7 = true) (hb : inz (I 17 4) 0 7 = true) : pfC G L I r (cPf L I) ∧ KK (cPf L I).2.1 (rF (cPf L I)) (mQ 5 (mPf J 5 (I 17 3) (I 17 4) (I 17 5))) := by
  rw [cPf_5 ho, mPf_5]
  have sa := sm8 ha
  have sb := sm8 hb
  exact ⟨t_perf_5 sa.1 sa.2 sb.1 sb.2 ho, sim_5 h sa.2 sb.2 ⟨fun e => congrArg tn e, fun e => sa.1.trans ((congrArg nI e).trans sb.1.symm)⟩⟩
theorem one_7 (h : KR L I J) (ho : I 17 2 = 7) (ha : inz (I 17 3) 0 7 = true) : pfC G L I r (cPf L I) ∧ KK (cPf L I).2.1 (rF (cPf L I)) (mQ 7 (mPf J 7 (I 17 3) (I 17 4) (I 17 5))) := by
  rw [cPf_7 ho, mPf_7]
  have sa := sm8 ha
  exact ⟨t_perf_7 sa.1 sa.2 ho, sim_7 h sa.2⟩
theorem one_8 (h : KR L I J) (ho : I 17 2 = 8) (ha : inz (I 17 3) 0 7 = true) : pfC G L I r (cPf L I) ∧ KK (cPf L I).2.1 (rF (cPf L I)) (mQ 8 (mPf J 8 (I 17 3) (I 17 4) (I 17 5))) := by
  rw [cPf_8 ho, mPf_8]
  have sa := sm8 ha
  exact ⟨t_perf_8 sa.1 sa.2 (fun z => K_lt h.1 (by omega) (Or.inl z)) ho, sim_8 h sa.2⟩
theorem one_9 (h : KR L I J) (ho : I 17 2 = 9) (ha : inz (I 17 3) 0 7 = true) : pfC G L I r (cPf L I) ∧ KK (cPf L I).2.1 (rF (cPf L I)) (mQ 9 (mPf J 9 (I 17 3) (I 17 4) (I 17 5))) := by
  rw [cPf_9 ho, mPf_9]
  have sa := sm8 ha
  exact ⟨t_perf_9 sa.1 sa.2 (fun z => K_lt h.1 (by omega) (Or.inl z)) ho, sim_9 h sa.2⟩
theorem one_10 (h : KR L I J) (ho : I 17 2 = 10) (ha : inz (I 17 3) 0 7 = true) (hb : inz (I 17 4) 0 7 = true) : pfC G L I r (cPf L I) ∧ KK (cPf L I).2.1 (rF (cPf L I)) (mQ 10 (mPf J 10 (I 17 3) (I 17 4) (I 17 5))) := by
  rw [cPf_10 ho, mPf_10]
  have sa := sm8 ha
  have sb := sm8 hb
  have hpl : vCap (L 5 (tn (I 17 4))) = true → vIn I (L 5 (tn (I 17 4))) = true → (8 + vFr (L 5 (tn (I 17 4))) + I 17 5 = nI (tn (8 + vFr (L 5 (tn (I 17 4))) + I 17 5)) ∧ tn (8 + vFr (L 5 (tn (I 17 4))) + I 17 5) < 56) := by
    intro hc hi
    have h0 : ¬ (gt J (tn (I 17 4)) 0 = 0 ∨ gt J (tn (I 17 4)) 0 = 3) := fun z => by rw [(K_cap h.1 (by omega)).mpr z] at hc; exact absurd hc (by decide)
    rw [K_in h.1 (by omega) h0] at hi
    have kw := K_w h.1 (by omega) h0 hi
    rw [w_eq h.1 (by omega) h0]
    exact ⟨kw.1, kw.2.1⟩
  have hsim : ∀ w, (¬ (gt J (tn (I 17 4)) 0 = 0 ∨ gt J (tn (I 17 4)) 0 = 3) → w = tn (8 + (gt J (tn (I 17 4)) 1 + I 17 5))) → KK (oLoa L I (tn (I 17 3)) (tn (I 17 4)) w).2.1 (rF (oLoa L I (tn (I 17 3)) (tn (I 17 4)) w)) (mQ 10 (mLoa J (tn (I 17 3)) (tn (I 17 4)) (tn (8 + (gt J (tn (I 17 4)) 1 + I 17 5))) (I 17 5))) := by
    intro w hw
    by_cases h0 : gt J (tn (I 17 4)) 0 = 0 ∨ gt J (tn (I 17 4)) 0 = 3
    · unfold oLoa mLoa
      rw [if_pos ((K_cap h.1 (by omega)).mpr h0), if_pos h0]; exact finF h (by decide)
    · rw [hw h0]; exact sim_10 h sa.2 sb.2 rfl
  exact ⟨t_perf_10 sa.1 sa.2 sb.1 sb.2 hpl (fun c1 c2 z => K_lt h.1 (by have := (hpl c1 c2).2; omega) (Or.inl z)) ho, hsim _ (fun h0 => congrArg tn (w_eq h.1 (by omega) h0))⟩
theorem one_11 (h : KR L I J) (ho : I 17 2 = 11) (ha : inz (I 17 3) 0 7 = true) (hb : inz (I 17 4) 0 7 = true) : pfC G L I r (cPf L I) ∧ KK (cPf L I).2.1 (rF (cPf L I)) (mQ 11 (mPf J 11 (I 17 3) (I 17 4) (I 17 5))) := by
  rw [cPf_11 ho, mPf_11]
  have sa := sm8 ha
  have sb := sm8 hb
  have hpl : vCap (L 5 (tn (I 17 4))) = true → vIn I (L 5 (tn (I 17 4))) = true → (8 + vFr (L 5 (tn (I 17 4))) + I 17 5 = nI (tn (8 + vFr (L 5 (tn (I 17 4))) + I 17 5)) ∧ tn (8 + vFr (L 5 (tn (I 17 4))) + I 17 5) < 56) := by
    intro hc hi
    have h0 : ¬ (gt J (tn (I 17 4)) 0 = 0 ∨ gt J (tn (I 17 4)) 0 = 3) := fun z => by rw [(K_cap h.1 (by omega)).mpr z] at hc; exact absurd hc (by decide)
    rw [K_in h.1 (by omega) h0] at hi
    have kw := K_w h.1 (by omega) h0 hi
    rw [w_eq h.1 (by omega) h0]
    exact ⟨kw.1, kw.2.1⟩
  have hsim : ∀ w, (¬ (gt J (tn (I 17 4)) 0 = 0 ∨ gt J (tn (I 17 4)) 0 = 3) → w = tn (8 + (gt J (tn (I 17 4)) 1 + I 17 5))) → KK (oSto L I (tn (I 17 3)) (tn (I 17 4)) w).2.1 (rF (oSto L I (tn (I 17 3)) (tn (I 17 4)) w)) (mQ 11 (mSto J (tn (I 17 3)) (tn (I 17 4)) (tn (8 + (gt J (tn (I 17 4)) 1 + I 17 5))) (I 17 5))) := by
    intro w hw
    by_cases h0 : gt J (tn (I 17 4)) 0 = 0 ∨ gt J (tn (I 17 4)) 0 = 3
    · unfold oSto mSto
      rw [if_pos ((K_cap h.1 (by omega)).mpr h0), if_pos h0]; exact finF h (by decide)
    · rw [hw h0]; exact sim_11 h sa.2 sb.2 rfl
  exact ⟨t_perf_11 sa.1 sa.2 sb.1 sb.2 hpl (fun z => K_lt h.1 (by omega) (Or.inl z)) ho, hsim _ (fun h0 => congrArg tn (w_eq h.1 (by omega) h0))⟩
theorem one_12 (h : KR L I J) (ho : I 17 2 = 12) : pfC G L I r (cPf L I) ∧ KK (cPf L I).2.1 (rF (cPf L I)) (mQ 12 (mPf J 12 (I 17 3) (I 17 4) (I 17 5))) := by
  rw [cPf_12 ho, mPf_12]
  exact ⟨t_perf_12 ho, sim_12 h⟩
theorem one_13 (h : KR L I J) (ho : I 17 2 = 13) (ha : inz (I 17 3) 0 7 = true) : pfC G L I r (cPf L I) ∧ KK (cPf L I).2.1 (rF (cPf L I)) (mQ 13 (mPf J 13 (I 17 3) (I 17 4) (I 17 5))) := by
  rw [cPf_13 ho, mPf_13]
  have sa := sm8 ha
  exact ⟨t_perf_13 sa.1 sa.2 ho, sim_13 h sa.2⟩
theorem one_15 (h : KR L I J) (ho : I 17 2 = 15) (ha : inz (I 17 3) 0 7 = true) (hb : inz (I 17 4) 0 2 = true) : pfC G L I r (cPf L I) ∧ KK (cPf L I).2.1 (rF (cPf L I)) (mQ 15 (mPf J 15 (I 17 3) (I 17 4) (I 17 5))) := by
  rw [cPf_15 ho, mPf_15]
  have sa := sm8 ha
  exact ⟨t_perf_15 sa.1 sa.2 ho, sim_15 h sa.2 (sm_inz (n := 2) rfl (by decide) hb)⟩
theorem one_16 (h : KR L I J) (ho : I 17 2 = 16) (ha : inz (I 17 3) 0 7 = true) (hb : inz (I 17 4) 0 6 = true) : pfC G L I r (cPf L I) ∧ KK (cPf L I).2.1 (rF (cPf L I)) (mQ 16 (mPf J 16 (I 17 3) (I 17 4) (I 17 5))) := by
  rw [cPf_16 ho, mPf_16]
  have sa := sm8 ha
  have hd := h.1.1.2.2.2.1
  have sd : sm (I 4 10) 6 := by rw [hd.1]; exact hd.2
  have sk := sm_inz (n := 6) rfl (by decide) hb
  exact ⟨t_perf_16 sa.1 sa.2 (fun z => K_lt h.1 (by omega) (Or.inr z)) sd.1 (by have := sd.2; omega) ho, by rw [hd.1]; exact sim_16 h sa.2 sk.1 (by have := sk.2; omega) rfl⟩
theorem one_17 (h : KR L I J) (ho : I 17 2 = 17) : pfC G L I r (cPf L I) ∧ KK (cPf L I).2.1 (rF (cPf L I)) (mQ 17 (mPf J 17 (I 17 3) (I 17 4) (I 17 5))) := by
  rw [cPf_17 ho, mPf_17]
  have hd := h.1.1.2.2.2.1
  by_cases h0 : J 1000 10 = 0
  · rw [if_pos h0, if_pos (by rw [hd.1]; exact h0)]
    exact ⟨t_perf_170 (by rw [hd.1]; exact h0) ho, finF h (by decide)⟩
  · have hn : ¬ I 4 10 = 0 := by rw [hd.1]; exact h0
    rw [if_neg h0, if_neg hn, hd.1]
    obtain ⟨f, ef⟩ : ∃ f, tn (J 1000 10) = f + 1 := by
      cases e : tn (J 1000 10) with
      | zero => exact absurd (by rw [hd.2.1, e]; rfl) h0
      | succ f => exact ⟨f, rfl⟩
    have e10 : J 1000 10 = nI (f + 1) := by rw [← ef]; exact hd.2.1
    have hf6 := hd.2.2
    rw [ef, show f + 1 - 1 = f from rfl]
    have hfr := h.1.1.2.2.2.2.1 f (by unfold dpt; omega)
    have e13 : I 13 f = J 1010 (4 * f + 2) := hfr.1.2.2.1
    have e14 : I 14 f = J 1010 (4 * f + 3) := hfr.1.2.2.2
    rw [e13, e14]
    exact ⟨t_perf_17 (by rw [hd.1]; exact e10) (by omega) (by rw [e13]; exact hfr.2.2.1.1) hfr.2.2.1.2 (by rw [e14]; exact hfr.2.2.2.1.1) (by have := hfr.2.2.2.1.2; omega) ho, sim_17 h e10 (by omega) hfr.2.2.1.1 hfr.2.2.1.2 hfr.2.2.2.1.1 (by have := hfr.2.2.2.1.2; omega)⟩
theorem one_18 (h : KR L I J) (ho : I 17 2 = 18) : pfC G L I r (cPf L I) ∧ KK (cPf L I).2.1 (rF (cPf L I)) (mQ 18 (mPf J 18 (I 17 3) (I 17 4) (I 17 5))) := by
  rw [cPf_18 ho, mPf_18]
  exact ⟨t_perf_18 ho, sim_18 h⟩
end ONE
