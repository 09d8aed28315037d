abbrev vwCl : List vw_C := [(RX0, TX0, 5), (RX1, TX1, 6), (RX2, TX2, 4), (RX3, TX3, 3), (RX4, TX4, 2), (RX6, TX6, 6), (RX7, TX7, 16), (RX8, TX8, 10), (RX9, TX9, 31)]
