abbrev vwCl : List vw_C := [(RJ0, TJ0, 2), (RJx00060, TJx00060, 6), (RX0, TX0, 1), (RX2, TX2, 2), (RX3, TX3, 5), (RX4, TX4, 9)]
