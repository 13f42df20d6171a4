set_option maxRecDepth 20000 in
theorem ggX6_isPurse_X6_in : GoodIn wsX6_isPurse wsX6_in := goodIn_r _ [5] (by decide +kernel) (by decide +kernel)
set_option maxRecDepth 20000 in
theorem gX6_isPurse_X6_in : GoodIn wsX6_isPurse (va_wsS RX6 48 yX6_in wsX6_in) := goodIn_app (goodIn_of _ (by decide +kernel)) ggX6_isPurse_X6_in
set_option maxRecDepth 20000 in
theorem ggX6_isInLog_X6_same : GoodIn wsX6_isInLog wsX6_same := goodIn_r _ [6, 7, 8, 9, 10, 11, 12, 13, 14, 15, 16, 17, 18, 19, 20, 21] (by decide +kernel) (by decide +kernel)
set_option maxRecDepth 20000 in
theorem gX6_isInLog_X6_same : GoodIn wsX6_isInLog (wsV RX6 52 RX6 yX6_same wsX6_same) := goodIn_app (goodIn_of _ (by decide +kernel)) ggX6_isInLog_X6_same
set_option maxRecDepth 20000 in
theorem ggX6_isKept_X6_same : GoodIn wsX6_isKept wsX6_same := goodIn_r _ [6, 7, 8, 9, 10, 11, 12, 13, 14, 15, 16, 17, 18, 19, 20, 21] (by decide +kernel) (by decide +kernel)
set_option maxRecDepth 20000 in
theorem gX6_isKept_X6_same : GoodIn wsX6_isKept (wsV RX6 52 RX6 yX6_same wsX6_same) := goodIn_app (goodIn_of _ (by decide +kernel)) ggX6_isKept_X6_same
set_option maxRecDepth 20000 in
theorem ggX6_isRefunded_X6_same : GoodIn wsX6_isRefunded wsX6_same := goodIn_r _ [7, 8, 9, 10, 11, 12, 13, 14, 15, 16, 17, 18, 19, 20, 21, 22] (by decide +kernel) (by decide +kernel)
set_option maxRecDepth 20000 in
theorem gX6_isRefunded_X6_same : GoodIn wsX6_isRefunded (wsV RX6 52 RX6 yX6_same wsX6_same) := goodIn_app (goodIn_of _ (by decide +kernel)) ggX6_isRefunded_X6_same
set_option maxRecDepth 20000 in
theorem ggX6_send_X6_copy : GoodIn wsX6_send wsX6_copy := goodIn_r _ [8, 9, 10, 11, 12, 13, 14, 15, 16, 17, 18, 19, 20, 21, 22, 23] (by decide +kernel) (by decide +kernel)
set_option maxRecDepth 20000 in
theorem gX6_send_X6_copy : GoodIn wsX6_send (wsV RX6 62 RX6 yX6_copy wsX6_copy) := goodIn_app (goodIn_of _ (by decide +kernel)) ggX6_send_X6_copy
set_option maxRecDepth 20000 in
theorem ggX6_endIt_X6_copy : GoodIn wsX6_endIt wsX6_copy := goodIn_r _ [8, 9, 10, 11, 12, 13, 14, 15, 16, 17, 18, 19, 20, 21, 22, 23] (by decide +kernel) (by decide +kernel)
set_option maxRecDepth 20000 in
theorem gX6_endIt_X6_copy : GoodIn wsX6_endIt (wsV RX6 62 RX6 yX6_copy wsX6_copy) := goodIn_app (goodIn_of _ (by decide +kernel)) ggX6_endIt_X6_copy
set_option maxRecDepth 20000 in
theorem ggX6_waits_X6_same : GoodIn wsX6_waits wsX6_same := goodIn_r _ [6, 7, 8, 9, 10, 11, 12, 13, 14, 15, 16, 17, 18, 19, 20, 21] (by decide +kernel) (by decide +kernel)
set_option maxRecDepth 20000 in
theorem gX6_waits_X6_same : GoodIn wsX6_waits (wsV RX6 52 RX6 yX6_same wsX6_same) := goodIn_app (goodIn_of _ (by decide +kernel)) ggX6_waits_X6_same
set_option maxRecDepth 20000 in
theorem ggX6_takesBegin_X6_endIt : GoodIn wsX6_takesBegin wsX6_endIt := goodIn_r _ [10, 5, 1, 4, 11, 12, 13, 9, 14, 3, 26, 27, 28, 29, 30, 31, 32, 33, 34, 35, 36, 37, 38, 39] (by decide +kernel) (by decide +kernel)
set_option maxRecDepth 20000 in
theorem gX6_takesBegin_X6_endIt : GoodIn wsX6_takesBegin (wsV RX6 66 RX6 yX6_endIt wsX6_endIt) := goodIn_app (goodIn_of _ (by decide +kernel)) ggX6_takesBegin_X6_endIt
set_option maxRecDepth 20000 in
theorem ggX6_takesBegin_X6_part : GoodIn wsX6_takesBegin wsX6_part := goodIn_r _ [18, 3, 26, 27, 28, 29, 30, 31, 32, 33, 34, 35, 36, 37, 38, 39] (by decide +kernel) (by decide +kernel)
set_option maxRecDepth 20000 in
theorem gX6_takesBegin_X6_part : GoodIn wsX6_takesBegin (wsV RX6 70 RX6 yX6_part wsX6_part) := goodIn_app (goodIn_of _ (by decide +kernel)) ggX6_takesBegin_X6_part
set_option maxRecDepth 20000 in
theorem ggX6_takesBegin_X6_copy : GoodIn wsX6_takesBegin wsX6_copy := goodIn_r _ [14, 3, 26, 27, 28, 29, 30, 31, 32, 33, 34, 35, 36, 37, 38, 39] (by decide +kernel) (by decide +kernel)
set_option maxRecDepth 20000 in
theorem gX6_takesBegin_X6_copy : GoodIn wsX6_takesBegin (wsV RX6 62 RX6 yX6_copy wsX6_copy) := goodIn_app (goodIn_of _ (by decide +kernel)) ggX6_takesBegin_X6_copy
set_option maxRecDepth 20000 in
theorem ggX6_takesBegin_X6_send : GoodIn wsX6_takesBegin wsX6_send := goodIn_r _ [22, 23, 24, 25, 11, 12, 13, 9, 14, 3, 26, 27, 28, 29, 30, 31, 32, 33, 34, 35, 36, 37, 38, 39] (by decide +kernel) (by decide +kernel)
set_option maxRecDepth 20000 in
theorem gX6_takesBegin_X6_send : GoodIn wsX6_takesBegin (wsV RX6 74 RX6 yX6_send wsX6_send) := goodIn_app (goodIn_of _ (by decide +kernel)) ggX6_takesBegin_X6_send
set_option maxRecDepth 20000 in
theorem ggX6_takesOther_X6_waits : GoodIn wsX6_takesOther wsX6_waits := goodIn_r _ [7, 2, 8, 9, 10, 6, 11, 12, 28, 29, 30, 31, 32, 33, 34, 35, 36, 37, 38, 39, 40, 41] (by decide +kernel) (by decide +kernel)
set_option maxRecDepth 20000 in
theorem gX6_takesOther_X6_waits : GoodIn wsX6_takesOther (wsV RX6 78 RX6 yX6_waits wsX6_waits) := goodIn_app (goodIn_of _ (by decide +kernel)) ggX6_takesOther_X6_waits
set_option maxRecDepth 20000 in
theorem ggX6_takesOther_X6_part : GoodIn wsX6_takesOther wsX6_part := goodIn_r _ [16, 12, 28, 29, 30, 31, 32, 33, 34, 35, 36, 37, 38, 39, 40, 41] (by decide +kernel) (by decide +kernel)
set_option maxRecDepth 20000 in
theorem gX6_takesOther_X6_part : GoodIn wsX6_takesOther (wsV RX6 70 RX6 yX6_part wsX6_part) := goodIn_app (goodIn_of _ (by decide +kernel)) ggX6_takesOther_X6_part
set_option maxRecDepth 20000 in
theorem ggX6_takesOther_X6_send : GoodIn wsX6_takesOther wsX6_send := goodIn_r _ [20, 21, 22, 23, 24, 25, 26, 6, 27, 12, 28, 29, 30, 31, 32, 33, 34, 35, 36, 37, 38, 39, 40, 41] (by decide +kernel) (by decide +kernel)
set_option maxRecDepth 20000 in
theorem gX6_takesOther_X6_send : GoodIn wsX6_takesOther (wsV RX6 74 RX6 yX6_send wsX6_send) := goodIn_app (goodIn_of _ (by decide +kernel)) ggX6_takesOther_X6_send
set_option maxRecDepth 20000 in
theorem ggX6_takesRecord_X6_isKept : GoodIn wsX6_takesRecord wsX6_isKept := goodIn_r _ [9, 3, 10, 11, 12, 8, 13, 14, 19, 20, 21, 22, 23, 24, 25, 26, 27, 28, 29, 30, 31, 32] (by decide +kernel) (by decide +kernel)
set_option maxRecDepth 20000 in
theorem gX6_takesRecord_X6_isKept : GoodIn wsX6_takesRecord (wsV RX6 81 RX6 yX6_isKept wsX6_isKept) := goodIn_app (goodIn_of _ (by decide +kernel)) ggX6_takesRecord_X6_isKept
set_option maxRecDepth 20000 in
theorem ggX6_takesRecord_X6_copy : GoodIn wsX6_takesRecord wsX6_copy := goodIn_r _ [18, 14, 19, 20, 21, 22, 23, 24, 25, 26, 27, 28, 29, 30, 31, 32] (by decide +kernel) (by decide +kernel)
set_option maxRecDepth 20000 in
theorem gX6_takesRecord_X6_copy : GoodIn wsX6_takesRecord (wsV RX6 62 RX6 yX6_copy wsX6_copy) := goodIn_app (goodIn_of _ (by decide +kernel)) ggX6_takesRecord_X6_copy
set_option maxRecDepth 20000 in
theorem ggX6_takesClearing_X6_isKept : GoodIn wsX6_takesClearing wsX6_isKept := goodIn_r _ [7, 8, 9, 10, 11, 6, 12, 13, 14, 15, 16, 17, 18, 19, 20, 21, 22, 23, 24, 25, 26, 27] (by decide +kernel) (by decide +kernel)
set_option maxRecDepth 20000 in
theorem gX6_takesClearing_X6_isKept : GoodIn wsX6_takesClearing (wsV RX6 81 RX6 yX6_isKept wsX6_isKept) := goodIn_app (goodIn_of _ (by decide +kernel)) ggX6_takesClearing_X6_isKept
set_option maxRecDepth 20000 in
theorem ggX6_purse_X6_in : GoodIn wsX6_purse wsX6_in := goodIn_r _ [9] (by decide +kernel) (by decide +kernel)
set_option maxRecDepth 20000 in
theorem gX6_purse_X6_in : GoodIn wsX6_purse (va_wsS RX6 48 yX6_in wsX6_in) := goodIn_app (goodIn_of _ (by decide +kernel)) ggX6_purse_X6_in
set_option maxRecDepth 20000 in
theorem ggX6_begin_X6_isPurse : GoodIn wsX6_begin wsX6_isPurse := goodIn_r _ [9, 10, 11, 12, 8, 13, 29, 30, 31, 32, 33, 34, 35, 36, 37, 38, 39, 40, 41, 42] (by decide +kernel) (by decide +kernel)
set_option maxRecDepth 20000 in
theorem gX6_begin_X6_isPurse : GoodIn wsX6_begin (wsV RX6 85 RX6 yX6_isPurse wsX6_isPurse) := goodIn_app (goodIn_of _ (by decide +kernel)) ggX6_begin_X6_isPurse
set_option maxRecDepth 20000 in
theorem ggX6_begin_X6_in : GoodIn wsX6_begin wsX6_in := goodIn_r _ [13] (by decide +kernel) (by decide +kernel)
set_option maxRecDepth 20000 in
theorem gX6_begin_X6_in : GoodIn wsX6_begin (va_wsS RX6 48 yX6_in wsX6_in) := goodIn_app (goodIn_of _ (by decide +kernel)) ggX6_begin_X6_in
set_option maxRecDepth 20000 in
theorem ggX6_begin_X6_lay : GoodIn wsX6_begin wsX6_lay := goodIn_r _ [17, 18, 29, 30, 31, 32, 33, 34, 35, 36, 37, 38, 39, 40, 41, 42] (by decide +kernel) (by decide +kernel)
set_option maxRecDepth 20000 in
theorem gX6_begin_X6_lay : GoodIn wsX6_begin (wsV RX6 90 RX6 yX6_lay wsX6_lay) := goodIn_app (goodIn_of _ (by decide +kernel)) ggX6_begin_X6_lay
set_option maxRecDepth 20000 in
theorem ggX6_begin_X6_send : GoodIn wsX6_begin wsX6_send := goodIn_r _ [22, 23, 2, 24, 25, 26, 27, 8, 28, 18, 29, 30, 31, 32, 33, 34, 35, 36, 37, 38, 39, 40, 41, 42] (by decide +kernel) (by decide +kernel)
set_option maxRecDepth 20000 in
theorem gX6_begin_X6_send : GoodIn wsX6_begin (wsV RX6 74 RX6 yX6_send wsX6_send) := goodIn_app (goodIn_of _ (by decide +kernel)) ggX6_begin_X6_send
set_option maxRecDepth 20000 in
theorem ggX6_deliver_X6_in : GoodIn wsX6_deliver wsX6_in := goodIn_r _ [9] (by decide +kernel) (by decide +kernel)
set_option maxRecDepth 20000 in
theorem gX6_deliver_X6_in : GoodIn wsX6_deliver (va_wsS RX6 48 yX6_in wsX6_in) := goodIn_app (goodIn_of _ (by decide +kernel)) ggX6_deliver_X6_in
set_option maxRecDepth 20000 in
theorem ggX6_deliver_X6_waits : GoodIn wsX6_deliver wsX6_waits := goodIn_r _ [13, 14, 15, 16, 17, 8, 18, 19, 62, 63, 64, 65, 66, 67, 68, 69, 70, 71, 72, 73, 74, 75] (by decide +kernel) (by decide +kernel)
set_option maxRecDepth 20000 in
theorem gX6_deliver_X6_waits : GoodIn wsX6_deliver (wsV RX6 78 RX6 yX6_waits wsX6_waits) := goodIn_app (goodIn_of _ (by decide +kernel)) ggX6_deliver_X6_waits
set_option maxRecDepth 20000 in
theorem ggX6_deliver_X6_takesBegin : GoodIn wsX6_deliver wsX6_takesBegin := goodIn_r _ [23, 24, 25, 19, 26, 14, 27, 28, 29, 8, 30, 31, 32, 33, 34, 35, 36, 37, 38, 39, 40, 41, 42, 3, 1, 4, 62, 63, 64, 65, 66, 67, 68, 69, 70, 71, 72, 73, 74, 75] (by decide +kernel) (by decide +kernel)
set_option maxRecDepth 20000 in
theorem gX6_deliver_X6_takesBegin : GoodIn wsX6_deliver (wsV RX6 94 RX6 yX6_takesBegin wsX6_takesBegin) := goodIn_app (goodIn_of _ (by decide +kernel)) ggX6_deliver_X6_takesBegin
set_option maxRecDepth 20000 in
theorem ggX6_deliver_X6_takesOther : GoodIn wsX6_deliver wsX6_takesOther := goodIn_r _ [46, 25, 14, 10, 11, 12, 8, 13, 15, 16, 17, 18, 19, 35, 36, 37, 38, 39, 40, 41, 42, 3, 1, 4, 31, 32, 33, 34, 62, 63, 64, 65, 66, 67, 68, 69, 70, 71, 72, 73, 74, 75] (by decide +kernel) (by decide +kernel)
set_option maxRecDepth 20000 in
theorem gX6_deliver_X6_takesOther : GoodIn wsX6_deliver (wsV RX6 98 RX6 yX6_takesOther wsX6_takesOther) := goodIn_app (goodIn_of _ (by decide +kernel)) ggX6_deliver_X6_takesOther
set_option maxRecDepth 20000 in
theorem ggX6_deliver_X6_takesRecord : GoodIn wsX6_deliver wsX6_takesRecord := goodIn_r _ [50, 5, 51, 52, 53, 54, 55, 56, 8, 57, 15, 16, 17, 18, 19, 31, 32, 33, 34, 62, 63, 64, 65, 66, 67, 68, 69, 70, 71, 72, 73, 74, 75] (by decide +kernel) (by decide +kernel)
set_option maxRecDepth 20000 in
theorem gX6_deliver_X6_takesRecord : GoodIn wsX6_deliver (wsV RX6 101 RX6 yX6_takesRecord wsX6_takesRecord) := goodIn_app (goodIn_of _ (by decide +kernel)) ggX6_deliver_X6_takesRecord
set_option maxRecDepth 20000 in
theorem ggX6_deliver_X6_takesClearing : GoodIn wsX6_deliver wsX6_takesClearing := goodIn_r _ [61, 14, 24, 54, 55, 56, 8, 57, 52, 15, 16, 17, 18, 19, 62, 63, 64, 65, 66, 67, 68, 69, 70, 71, 72, 73, 74, 75] (by decide +kernel) (by decide +kernel)
set_option maxRecDepth 20000 in
theorem gX6_deliver_X6_takesClearing : GoodIn wsX6_deliver (wsV RX6 104 RX6 yX6_takesClearing wsX6_takesClearing) := goodIn_app (goodIn_of _ (by decide +kernel)) ggX6_deliver_X6_takesClearing
set_option maxRecDepth 20000 in
theorem ggX6_abort_X6_isPurse : GoodIn wsX6_abort wsX6_isPurse := goodIn_r _ [7, 8, 9, 10, 6, 11, 23, 24, 25, 26, 27, 28, 29, 30, 31, 32, 33, 34, 35, 36] (by decide +kernel) (by decide +kernel)
set_option maxRecDepth 20000 in
theorem gX6_abort_X6_isPurse : GoodIn wsX6_abort (wsV RX6 85 RX6 yX6_isPurse wsX6_isPurse) := goodIn_app (goodIn_of _ (by decide +kernel)) ggX6_abort_X6_isPurse
set_option maxRecDepth 20000 in
theorem ggX6_abort_X6_endIt : GoodIn wsX6_abort wsX6_endIt := goodIn_r _ [15, 2, 16, 17, 18, 19, 20, 6, 21, 22, 23, 24, 25, 26, 27, 28, 29, 30, 31, 32, 33, 34, 35, 36] (by decide +kernel) (by decide +kernel)
set_option maxRecDepth 20000 in
theorem gX6_abort_X6_endIt : GoodIn wsX6_abort (wsV RX6 66 RX6 yX6_endIt wsX6_endIt) := goodIn_app (goodIn_of _ (by decide +kernel)) ggX6_abort_X6_endIt
set_option maxRecDepth 20000 in
theorem ggX6_readLog_X6_isPurse : GoodIn wsX6_readLog wsX6_isPurse := goodIn_r _ [10, 11, 12, 13, 9, 14, 26, 27, 28, 29, 30, 31, 32, 33, 34, 35, 36, 37, 38, 39] (by decide +kernel) (by decide +kernel)
set_option maxRecDepth 20000 in
theorem gX6_readLog_X6_isPurse : GoodIn wsX6_readLog (wsV RX6 85 RX6 yX6_isPurse wsX6_isPurse) := goodIn_app (goodIn_of _ (by decide +kernel)) ggX6_readLog_X6_isPurse
set_option maxRecDepth 20000 in
theorem ggX6_readLog_X6_send : GoodIn wsX6_readLog wsX6_send := goodIn_r _ [18, 19, 2, 20, 21, 22, 23, 9, 24, 25, 26, 27, 28, 29, 30, 31, 32, 33, 34, 35, 36, 37, 38, 39] (by decide +kernel) (by decide +kernel)
set_option maxRecDepth 20000 in
theorem gX6_readLog_X6_send : GoodIn wsX6_readLog (wsV RX6 74 RX6 yX6_send wsX6_send) := goodIn_app (goodIn_of _ (by decide +kernel)) ggX6_readLog_X6_send
set_option maxRecDepth 20000 in
theorem ggX6_authorise_X6_isPurse : GoodIn wsX6_authorise wsX6_isPurse := goodIn_r _ [10, 11, 12, 13, 9, 14, 30, 31, 32, 33, 34, 35, 36, 37, 38, 39, 40, 41, 42, 43] (by decide +kernel) (by decide +kernel)
set_option maxRecDepth 20000 in
theorem gX6_authorise_X6_isPurse : GoodIn wsX6_authorise (wsV RX6 85 RX6 yX6_isPurse wsX6_isPurse) := goodIn_app (goodIn_of _ (by decide +kernel)) ggX6_authorise_X6_isPurse
set_option maxRecDepth 20000 in
theorem ggX6_authorise_X6_lay : GoodIn wsX6_authorise wsX6_lay := goodIn_r _ [18, 19, 30, 31, 32, 33, 34, 35, 36, 37, 38, 39, 40, 41, 42, 43] (by decide +kernel) (by decide +kernel)
set_option maxRecDepth 20000 in
theorem gX6_authorise_X6_lay : GoodIn wsX6_authorise (wsV RX6 90 RX6 yX6_lay wsX6_lay) := goodIn_app (goodIn_of _ (by decide +kernel)) ggX6_authorise_X6_lay
set_option maxRecDepth 20000 in
theorem ggX6_authorise_X6_send : GoodIn wsX6_authorise wsX6_send := goodIn_r _ [23, 24, 4, 25, 26, 27, 28, 9, 29, 19, 30, 31, 32, 33, 34, 35, 36, 37, 38, 39, 40, 41, 42, 43] (by decide +kernel) (by decide +kernel)
set_option maxRecDepth 20000 in
theorem gX6_authorise_X6_send : GoodIn wsX6_authorise (wsV RX6 74 RX6 yX6_send wsX6_send) := goodIn_app (goodIn_of _ (by decide +kernel)) ggX6_authorise_X6_send
set_option maxRecDepth 20000 in
theorem ggX6_refund_X6_in : GoodIn wsX6_refund wsX6_in := goodIn_r _ [8] (by decide +kernel) (by decide +kernel)
set_option maxRecDepth 20000 in
theorem gX6_refund_X6_in : GoodIn wsX6_refund (va_wsS RX6 48 yX6_in wsX6_in) := goodIn_app (goodIn_of _ (by decide +kernel)) ggX6_refund_X6_in
set_option maxRecDepth 20000 in
theorem ggX6_refund_X6_part : GoodIn wsX6_refund wsX6_part := goodIn_r _ [12, 13, 27, 28, 29, 30, 31, 32, 33, 34, 35, 36, 37, 38, 39, 40] (by decide +kernel) (by decide +kernel)
set_option maxRecDepth 20000 in
theorem gX6_refund_X6_part : GoodIn wsX6_refund (wsV RX6 70 RX6 yX6_part wsX6_part) := goodIn_app (goodIn_of _ (by decide +kernel)) ggX6_refund_X6_part
set_option maxRecDepth 20000 in
theorem ggX6_refund_X6_isKept : GoodIn wsX6_refund wsX6_isKept := goodIn_r _ [17, 18, 19, 20, 21, 7, 22, 13, 27, 28, 29, 30, 31, 32, 33, 34, 35, 36, 37, 38, 39, 40] (by decide +kernel) (by decide +kernel)
set_option maxRecDepth 20000 in
theorem gX6_refund_X6_isKept : GoodIn wsX6_refund (wsV RX6 81 RX6 yX6_isKept wsX6_isKept) := goodIn_app (goodIn_of _ (by decide +kernel)) ggX6_refund_X6_isKept
set_option maxRecDepth 20000 in
theorem ggX6_refund_X6_isRefunded : GoodIn wsX6_refund wsX6_isRefunded := goodIn_r _ [26, 1, 3, 19, 20, 21, 7, 22, 13, 27, 28, 29, 30, 31, 32, 33, 34, 35, 36, 37, 38, 39, 40] (by decide +kernel) (by decide +kernel)
set_option maxRecDepth 20000 in
theorem gX6_refund_X6_isRefunded : GoodIn wsX6_refund (wsV RX6 107 RX6 yX6_isRefunded wsX6_isRefunded) := goodIn_app (goodIn_of _ (by decide +kernel)) ggX6_refund_X6_isRefunded
set_option maxRecDepth 20000 in
theorem ggX6_told_X6_isPurse : GoodIn wsX6_told wsX6_isPurse := goodIn_r _ [10, 11, 12, 13, 9, 14, 15, 16, 17, 18, 19, 20, 21, 22, 23, 24, 25, 26, 27, 28] (by decide +kernel) (by decide +kernel)
set_option maxRecDepth 20000 in
theorem gX6_told_X6_isPurse : GoodIn wsX6_told (wsV RX6 85 RX6 yX6_isPurse wsX6_isPurse) := goodIn_app (goodIn_of _ (by decide +kernel)) ggX6_told_X6_isPurse
set_option maxRecDepth 20000 in
theorem ggX6_told_X6_in : GoodIn wsX6_told wsX6_in := goodIn_r _ [14] (by decide +kernel) (by decide +kernel)
set_option maxRecDepth 20000 in
theorem gX6_told_X6_in : GoodIn wsX6_told (va_wsS RX6 48 yX6_in wsX6_in) := goodIn_app (goodIn_of _ (by decide +kernel)) ggX6_told_X6_in
set_option maxRecDepth 20000 in
theorem ggX6_transfer_X6_isPurse : GoodIn wsX6_transfer wsX6_isPurse := goodIn_r _ [7, 8, 9, 10, 6, 11, 17, 18, 19, 20, 21, 22, 23, 24, 25, 26, 27, 28, 29, 30] (by decide +kernel) (by decide +kernel)
set_option maxRecDepth 20000 in
theorem gX6_transfer_X6_isPurse : GoodIn wsX6_transfer (wsV RX6 85 RX6 yX6_isPurse wsX6_isPurse) := goodIn_app (goodIn_of _ (by decide +kernel)) ggX6_transfer_X6_isPurse
set_option maxRecDepth 20000 in
theorem ggX6_transfer_X6_in : GoodIn wsX6_transfer wsX6_in := goodIn_r _ [11] (by decide +kernel) (by decide +kernel)
set_option maxRecDepth 20000 in
theorem gX6_transfer_X6_in : GoodIn wsX6_transfer (va_wsS RX6 48 yX6_in wsX6_in) := goodIn_app (goodIn_of _ (by decide +kernel)) ggX6_transfer_X6_in
set_option maxRecDepth 20000 in
theorem ggX6_transfer_X6_part : GoodIn wsX6_transfer wsX6_part := goodIn_r _ [15, 16, 17, 18, 19, 20, 21, 22, 23, 24, 25, 26, 27, 28, 29, 30] (by decide +kernel) (by decide +kernel)
set_option maxRecDepth 20000 in
theorem gX6_transfer_X6_part : GoodIn wsX6_transfer (wsV RX6 70 RX6 yX6_part wsX6_part) := goodIn_app (goodIn_of _ (by decide +kernel)) ggX6_transfer_X6_part
set_option maxRecDepth 20000 in
theorem ggX6_log_X6_isPurse : GoodIn wsX6_log wsX6_isPurse := goodIn_r _ [7, 8, 9, 10, 6, 11, 17, 18, 19, 20, 21, 22, 23, 24, 25, 26, 27, 28, 29, 30] (by decide +kernel) (by decide +kernel)
set_option maxRecDepth 20000 in
theorem gX6_log_X6_isPurse : GoodIn wsX6_log (wsV RX6 85 RX6 yX6_isPurse wsX6_isPurse) := goodIn_app (goodIn_of _ (by decide +kernel)) ggX6_log_X6_isPurse
set_option maxRecDepth 20000 in
theorem ggX6_log_X6_in : GoodIn wsX6_log wsX6_in := goodIn_r _ [11] (by decide +kernel) (by decide +kernel)
set_option maxRecDepth 20000 in
theorem gX6_log_X6_in : GoodIn wsX6_log (va_wsS RX6 48 yX6_in wsX6_in) := goodIn_app (goodIn_of _ (by decide +kernel)) ggX6_log_X6_in
set_option maxRecDepth 20000 in
theorem ggX6_log_X6_part : GoodIn wsX6_log wsX6_part := goodIn_r _ [15, 16, 17, 18, 19, 20, 21, 22, 23, 24, 25, 26, 27, 28, 29, 30] (by decide +kernel) (by decide +kernel)
set_option maxRecDepth 20000 in
theorem gX6_log_X6_part : GoodIn wsX6_log (wsV RX6 70 RX6 yX6_part wsX6_part) := goodIn_app (goodIn_of _ (by decide +kernel)) ggX6_log_X6_part
set_option maxRecDepth 20000 in
theorem ggX6_message_X6_in : GoodIn wsX6_message wsX6_in := goodIn_r _ [8] (by decide +kernel) (by decide +kernel)
set_option maxRecDepth 20000 in
theorem gX6_message_X6_in : GoodIn wsX6_message (va_wsS RX6 48 yX6_in wsX6_in) := goodIn_app (goodIn_of _ (by decide +kernel)) ggX6_message_X6_in
set_option maxRecDepth 20000 in
theorem ggX6_message_X6_part : GoodIn wsX6_message wsX6_part := goodIn_r _ [12, 13, 14, 15, 16, 17, 18, 19, 20, 21, 22, 23, 24, 25, 26, 27] (by decide +kernel) (by decide +kernel)
set_option maxRecDepth 20000 in
theorem gX6_message_X6_part : GoodIn wsX6_message (wsV RX6 70 RX6 yX6_part wsX6_part) := goodIn_app (goodIn_of _ (by decide +kernel)) ggX6_message_X6_part
set_option maxRecDepth 20000 in
theorem ggX6_entry_X6_in : GoodIn wsX6_entry wsX6_in := goodIn_r _ [7] (by decide +kernel) (by decide +kernel)
set_option maxRecDepth 20000 in
theorem gX6_entry_X6_in : GoodIn wsX6_entry (va_wsS RX6 48 yX6_in wsX6_in) := goodIn_app (goodIn_of _ (by decide +kernel)) ggX6_entry_X6_in
set_option maxRecDepth 20000 in
theorem ggX6_entry_X6_part : GoodIn wsX6_entry wsX6_part := goodIn_r _ [11, 12, 22, 23, 24, 25, 26, 27, 28, 29, 30, 31, 32, 33, 34, 35] (by decide +kernel) (by decide +kernel)
set_option maxRecDepth 20000 in
theorem gX6_entry_X6_part : GoodIn wsX6_entry (wsV RX6 70 RX6 yX6_part wsX6_part) := goodIn_app (goodIn_of _ (by decide +kernel)) ggX6_entry_X6_part
set_option maxRecDepth 20000 in
theorem ggX6_entry_X6_isRefunded : GoodIn wsX6_entry wsX6_isRefunded := goodIn_r _ [16, 1, 17, 18, 19, 20, 6, 21, 12, 22, 23, 24, 25, 26, 27, 28, 29, 30, 31, 32, 33, 34, 35] (by decide +kernel) (by decide +kernel)
set_option maxRecDepth 20000 in
theorem gX6_entry_X6_isRefunded : GoodIn wsX6_entry (wsV RX6 107 RX6 yX6_isRefunded wsX6_isRefunded) := goodIn_app (goodIn_of _ (by decide +kernel)) ggX6_entry_X6_isRefunded
set_option maxRecDepth 20000 in
theorem ggX6_holds_X6_same : GoodIn wsX6_holds wsX6_same := goodIn_r _ [7, 8, 19, 20, 21, 22, 23, 24, 25, 26, 27, 28, 29, 30, 31, 32] (by decide +kernel) (by decide +kernel)
set_option maxRecDepth 20000 in
theorem gX6_holds_X6_same : GoodIn wsX6_holds (wsV RX6 52 RX6 yX6_same wsX6_same) := goodIn_app (goodIn_of _ (by decide +kernel)) ggX6_holds_X6_same
set_option maxRecDepth 20000 in
theorem ggX6_holds_X6_isInLog : GoodIn wsX6_holds wsX6_isInLog := goodIn_r _ [12, 13, 3, 4, 5, 6, 7, 8, 19, 20, 21, 22, 23, 24, 25, 26, 27, 28, 29, 30, 31, 32] (by decide +kernel) (by decide +kernel)
set_option maxRecDepth 20000 in
theorem gX6_holds_X6_isInLog : GoodIn wsX6_holds (wsV RX6 110 RX6 yX6_isInLog wsX6_isInLog) := goodIn_app (goodIn_of _ (by decide +kernel)) ggX6_holds_X6_isInLog
set_option maxRecDepth 20000 in
theorem ggX6_holds_X6_isKept : GoodIn wsX6_holds wsX6_isKept := goodIn_r _ [17, 18, 3, 4, 5, 6, 7, 8, 19, 20, 21, 22, 23, 24, 25, 26, 27, 28, 29, 30, 31, 32] (by decide +kernel) (by decide +kernel)
set_option maxRecDepth 20000 in
theorem gX6_holds_X6_isKept : GoodIn wsX6_holds (wsV RX6 81 RX6 yX6_isKept wsX6_isKept) := goodIn_app (goodIn_of _ (by decide +kernel)) ggX6_holds_X6_isKept
set_option maxRecDepth 20000 in
theorem ggX6_amountOf_X6_part : GoodIn wsX6_amountOf wsX6_part := goodIn_r _ [5, 6, 32, 33, 34, 35, 36, 37, 38, 39, 40, 41, 42, 43, 44, 45] (by decide +kernel) (by decide +kernel)
set_option maxRecDepth 20000 in
theorem gX6_amountOf_X6_part : GoodIn wsX6_amountOf (wsV RX6 70 RX6 yX6_part wsX6_part) := goodIn_app (goodIn_of _ (by decide +kernel)) ggX6_amountOf_X6_part
set_option maxRecDepth 20000 in
theorem ggX6_amountOf_X6_isRefunded : GoodIn wsX6_amountOf wsX6_isRefunded := goodIn_r _ [10, 11, 12, 13, 14, 15, 4, 16, 6, 32, 33, 34, 35, 36, 37, 38, 39, 40, 41, 42, 43, 44, 45] (by decide +kernel) (by decide +kernel)
set_option maxRecDepth 20000 in
theorem gX6_amountOf_X6_isRefunded : GoodIn wsX6_amountOf (wsV RX6 107 RX6 yX6_isRefunded wsX6_isRefunded) := goodIn_app (goodIn_of _ (by decide +kernel)) ggX6_amountOf_X6_isRefunded
set_option maxRecDepth 20000 in
theorem ggX6_amountOf_X6_holds : GoodIn wsX6_amountOf wsX6_holds := goodIn_r _ [20, 21, 11, 13, 14, 15, 4, 16, 6, 22, 23, 24, 25, 26, 27, 28, 29, 30, 31, 32, 33, 34, 35, 36, 37, 38, 39, 40, 41, 42, 43, 44, 45] (by decide +kernel) (by decide +kernel)
set_option maxRecDepth 20000 in
theorem gX6_amountOf_X6_holds : GoodIn wsX6_amountOf (wsV RX6 113 RX6 yX6_holds wsX6_holds) := goodIn_app (goodIn_of _ (by decide +kernel)) ggX6_amountOf_X6_holds
set_option maxRecDepth 20000 in
theorem ggX6_pending_X6_amountOf : GoodIn wsX6_pending wsX6_amountOf := goodIn_r _ [11, 12, 13, 14, 10, 15, 16, 17, 18, 19, 20, 5, 21, 22, 23, 24, 25, 26, 27, 28, 29, 3, 30, 31, 32, 33, 4, 34, 35, 36, 37, 6, 38, 39, 40, 41, 42, 43, 44, 45, 46, 47, 48, 49, 50, 51] (by decide +kernel) (by decide +kernel)
set_option maxRecDepth 20000 in
theorem gX6_pending_X6_amountOf : GoodIn wsX6_pending (wsV RX6 116 RX6 yX6_amountOf wsX6_amountOf) := goodIn_app (goodIn_of _ (by decide +kernel)) ggX6_pending_X6_amountOf
set_option maxRecDepth 20000 in
theorem ggX6_pending_X6_isInLog : GoodIn wsX6_pending wsX6_isInLog := goodIn_r _ [33, 4, 22, 23, 24, 10, 25, 16, 38, 39, 40, 41, 42, 43, 44, 45, 46, 47, 48, 49, 50, 51] (by decide +kernel) (by decide +kernel)
set_option maxRecDepth 20000 in
theorem gX6_pending_X6_isInLog : GoodIn wsX6_pending (wsV RX6 110 RX6 yX6_isInLog wsX6_isInLog) := goodIn_app (goodIn_of _ (by decide +kernel)) ggX6_pending_X6_isInLog
