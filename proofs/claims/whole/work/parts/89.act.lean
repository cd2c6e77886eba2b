/-! THE READERS, 6: the rest of an act -/
def shotX : Mm → Option Mm := sqX (opN (4 + 0) 0 3) (sqX (f_X0_readSign 102) (sqX (opN (4 + 1) 1000 9999999) (sqX (f_X0_readSign 98) (sqX (opN (4 + 2) 1000 9999999) (sqX (f_X0_readSign 113) (sqX (opN (4 + 3) 0 100) (f_X0_readSign 59)))))))
def shotY : Mm → Option (Int32 × Mm) := sqY (f_X11_readNumber (nI 0) 0 3) (sqY (f_X11_passes 102) (sqY (f_X11_readNumber (nI 1) 1000 9999999) (sqY (f_X11_passes 98) (sqY (f_X11_readNumber (nI 2) 1000 9999999) (sqY (f_X11_passes 113) (sqY (f_X11_readNumber (nI 3) 0 100) (f_X11_passes 59)))))))
theorem ok_shot {t : Nat} : OpOk t 0 4 shotX shotY :=
  ok_seq (ok_num (w := 0) (by decide)) (ok_seq (ok_sign (by decide)) (ok_seq (ok_num (w := 1) (by decide)) (ok_seq (ok_sign (by decide)) (ok_seq (ok_num (w := 2) (by decide)) (ok_seq (ok_sign (by decide)) (ok_seq (ok_num (w := 3) (by decide)) (ok_sign (by decide))))))))
