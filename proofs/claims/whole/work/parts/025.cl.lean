abbrev vwCl : List vw_C := [(RJ0, TJ0, 2), (RJx00060, TJx00060, 6), (RX2, TX2, 10), (RX3, TX3, 14)]
